/-! RecurrenceBookModel.readRule()Z -/
def fM_readRule_211 (s0 : Int32) (A : xj_H) : Option xj_R :=
  xj_rz s0 A
def fM_readRule_210 (A : xj_H) : Option xj_R :=
  fM_readRule_211 (0 : Int32) A
def fM_readRule_206 (A : xj_H) : Option xj_R :=
  fM_readRule_211 (1 : Int32) A
def fM_readRule_191 (v0 : xj_Rf) (v1 : Int32) (A : xj_H) : Option xj_R :=
  (xj_gi A v0 7 15).bind fun x1 =>
  if ¬ x1 = (2 : Int32) then
    fM_readRule_206  A
  else
    if ¬ (v1 &&& (32 : Int32)) = 0 then
      fM_readRule_210  A
    else
      fM_readRule_206  A
def fM_readRule_145 (k117 : xj_Rf → Int32 → Int32 → Int32 → xj_H → Option xj_R) (v0 : xj_Rf) (v1 : Int32) (v4 : Int32) (s0 : Int32) (A : xj_H) : Option xj_R :=
  k117 v0 v1 s0 (v4 + 1) A
def fM_readRule_144 (k117 : xj_Rf → Int32 → Int32 → Int32 → xj_H → Option xj_R) (v0 : xj_Rf) (v1 : Int32) (v4 : Int32) (A : xj_H) : Option xj_R :=
  fM_readRule_145 k117 v0 v1 v4 (0 : Int32) A
def fM_readRule_117 : Nat → xj_Rf → Int32 → Int32 → Int32 → xj_H → Option xj_R
  | 0, _, _, _, _, _ => none
  | n + 1, v0, v1, v3, v4, A =>
    (xj_gi A v0 7 25).bind fun x1 =>
    if x1 ≤ v4 then
      (xj_gi A v0 7 14).bind fun x2 =>
      (xj_gi A v0 7 2).bind fun x3 =>
      if ¬ x2 = x3 then
        fM_readRule_210  A
      else
        if ¬ (v1 &&& (1 : Int32)) = (1 : Int32) then
          fM_readRule_210  A
        else
          if (v1 &&& (12 : Int32)) = (12 : Int32) then
            fM_readRule_210  A
          else
            if ¬ v3 = 0 then
              fM_readRule_191 v0 v1 A
            else
              (xj_gi A v0 7 15).bind fun x4 =>
              if x4 ≤ (2 : Int32) then
                fM_readRule_210  A
              else
                fM_readRule_191 v0 v1 A
    else
      if v3 = 0 then
        fM_readRule_144 (fM_readRule_117 n) v0 v1 v4 A
      else
        (xj_gr A v0 7 24).bind fun x5 =>
        (xj_ai A x5 0 v4).bind fun x6 =>
        if ¬ x6 = 0 then
          fM_readRule_144 (fM_readRule_117 n) v0 v1 v4 A
        else
          fM_readRule_145 (fM_readRule_117 n) v0 v1 v4 (1 : Int32) A
def fM_readRule_96 (A : xj_H) : Option xj_R :=
  xj_rz (0 : Int32) A
def fM_readRule_77 : Nat → xj_Rf → Int32 → Int32 → xj_H → Option xj_R
  | 0, _, _, _, _ => none
  | n + 1, v0, v1, v2, A =>
    if v2 = 0 then
      fM_readRule_117 xj_fu v0 v1 (1 : Int32) (0 : Int32) A
    else
      xj_bi (xj_rq A v0 7 (fM_readPart v0 A)) fun x1 A2 =>
      if x1 = 0 then
        fM_readRule_96  A2
      else
        if (v1 &&& x1) = 0 then
          xj_bi (xj_rq A2 v0 7 (fM_takes v0 (59 : Int32) A2)) fun x3 A4 =>
          (fM_readRule_77 n) v0 (v1 ||| x1) x3 A4
        else
          fM_readRule_96  A2
def fM_readRule_35 : Nat → xj_Rf → Int32 → xj_H → Option xj_R
  | 0, _, _, _ => none
  | n + 1, v0, v1, A =>
    if (13 : Int32) ≤ v1 then
      (xj_pv A v0 7 22 (.int (0 : Int32))).bind fun A1 =>
      (xj_pv A1 v0 7 25 (.int (0 : Int32))).bind fun A2 =>
      (xj_gi A2 v0 7 2).bind fun x3 =>
      if ¬ x3 = 0 then
        fM_readRule_77 xj_fu v0 (0 : Int32) (1 : Int32) A2
      else
        xj_rz (1 : Int32) A2
    else
      (xj_gr A v0 7 20).bind fun x4 =>
      (xj_as A x4 2 v1 (vp_nar .boolean (0 : Int32))).bind fun A5 =>
      (fM_readRule_35 n) v0 (v1 + 1) A5
def fM_readRule (v0 : xj_Rf) (A : xj_H) : Option xj_R :=
  (xj_pv A v0 7 14 (.int (0 : Int32))).bind fun A1 =>
  (xj_pv A1 v0 7 15 (.int (0 : Int32))).bind fun A2 =>
  (xj_pv A2 v0 7 16 (.int (1 : Int32))).bind fun A3 =>
  (xj_pv A3 v0 7 17 (.int (200 : Int32))).bind fun A4 =>
  (xj_pv A4 v0 7 18 (.int (36524 : Int32))).bind fun A5 =>
  (xj_pz A5 v0 7 19 (0 : Int32)).bind fun A6 =>
  fM_readRule_35 xj_fu v0 (0 : Int32) A6
theorem wM_readRule_211 {l : Launch} (hl : l.stackTraces = false) {z : xj_F} (B : xj_B l yM_readRule prog_11_method_30_code 5 (some .boolean) [] 6 z) (s0 : Int32) (A : xj_H) (h : fM_readRule_211 s0 A = some (xf_r z)) : xj_W l z 211 [] [.int s0] A := by
  unfold fM_readRule_211 at h
  exact xg_zret B dM_readRule_211 h
theorem wM_readRule_210 {l : Launch} (hl : l.stackTraces = false) {z : xj_F} (B : xj_B l yM_readRule prog_11_method_30_code 5 (some .boolean) [] 6 z) (A : xj_H) (h : fM_readRule_210  A = some (xf_r z)) : xj_W l z 210 [] [] A := by
  unfold fM_readRule_210 at h
  refine xg_iconst (pc := 210) (v := 0) B dM_readRule_210 (by decide) ?_
  exact wM_readRule_211 hl B (0 : Int32) A h
theorem wM_readRule_206 {l : Launch} (hl : l.stackTraces = false) {z : xj_F} (B : xj_B l yM_readRule prog_11_method_30_code 5 (some .boolean) [] 6 z) (A : xj_H) (h : fM_readRule_206  A = some (xf_r z)) : xj_W l z 206 [] [] A := by
  unfold fM_readRule_206 at h
  refine xg_iconst (pc := 206) (v := 1) B dM_readRule_206 (by decide) ?_
  refine xg_goto (pc := 207) (tgt := 211) B dM_readRule_207 (by decide) ?_
  exact wM_readRule_211 hl B (1 : Int32) A h
theorem wM_readRule_191 {l : Launch} (hl : l.stackTraces = false) {z : xj_F} (B : xj_B l yM_readRule prog_11_method_30_code 5 (some .boolean) [] 6 z) (v0 : xj_Rf) (v1 : Int32) (A : xj_H) (h : fM_readRule_191 v0 v1 A = some (xf_r z)) : xj_W l z 191 [(0, xj_rv v0), (1, .int v1)] [] A := by
  unfold fM_readRule_191 at h
  refine xg_aload_n (pc := 191) (i := 0) (r := v0) B dM_readRule_191 rfl rfl ?_
  refine xg_geti (pc := 192) B dM_readRule_192 flM_138 h (fun x1 ex1 h => ?_)
  refine xg_iconst (pc := 195) (v := 2) B dM_readRule_195 (by decide) ?_
  refine xg_icmp_ne (pc := 196) (tgt := 206) B dM_readRule_196 (by decide) h (fun c196 h => ?_) (fun c196 h => ?_)
  · refine xg_sub (ls' := []) [] rfl ?_
    exact wM_readRule_206 hl B  A h
  · refine xg_iload_n (pc := 199) (i := 1) B dM_readRule_199 rfl rfl ?_
    refine xg_bipush (pc := 200) (v := 32) B dM_readRule_200 (by decide) ?_
    refine xg_iand (pc := 202) B dM_readRule_202 ?_
    refine xg_if_ne (pc := 203) (tgt := 210) B dM_readRule_203 (by decide) h (fun c203 h => ?_) (fun c203 h => ?_)
    · refine xg_sub (ls' := []) [] rfl ?_
      exact wM_readRule_210 hl B  A h
    · refine xg_sub (ls' := []) [] rfl ?_
      exact wM_readRule_206 hl B  A h
theorem wM_readRule_145 {l : Launch} (hl : l.stackTraces = false) {z : xj_F} (B : xj_B l yM_readRule prog_11_method_30_code 5 (some .boolean) [] 6 z) (k117 : xj_Rf → Int32 → Int32 → Int32 → xj_H → Option xj_R) (hk117 : ∀ (v0 : xj_Rf) (v1 : Int32) (v3 : Int32) (v4 : Int32) (A : xj_H), k117 v0 v1 v3 v4 A = some (xf_r z) → xj_W l z 117 [(0, xj_rv v0), (1, .int v1), (3, .int v3), (4, .int v4)] [] A) (v0 : xj_Rf) (v1 : Int32) (v4 : Int32) (s0 : Int32) (A : xj_H) (h : fM_readRule_145 k117 v0 v1 v4 s0 A = some (xf_r z)) : xj_W l z 145 [(0, xj_rv v0), (1, .int v1), (4, .int v4)] [.int s0] A := by
  unfold fM_readRule_145 at h
  refine xg_istore_n (pc := 145) (i := 3) (ls' := [(3, .int s0), (0, xj_rv v0), (1, .int v1), (4, .int v4)]) B dM_readRule_145 rfl (by decide) ⟨xj_nq (a := 0) (i := 3) (by decide), xj_nq (a := 1) (i := 3) (by decide), xj_nq (a := 4) (i := 3) (by decide), trivial⟩ rfl ?_
  refine xg_iinc (pc := 146) (i := 4) (v := (v4 + 1)) (ls' := [(4, .int (v4 + 1)), (3, .int s0), (0, xj_rv v0), (1, .int v1)]) B dM_readRule_146 rfl (xj_inc_1 _) (by decide) ⟨fun _ => rfl, xj_nq (a := 0) (i := 4) (by decide), xj_nq (a := 1) (i := 4) (by decide), xj_nq (a := 4) (i := 4) (by decide), trivial⟩ rfl ?_
  refine xg_goto (pc := 149) (tgt := 117) B dM_readRule_149 (by decide) ?_
  refine xg_sub (ls' := [(0, xj_rv v0), (1, .int v1), (3, .int s0), (4, .int (v4 + 1))]) [2, 3, 1, 0] rfl ?_
  exact hk117 v0 v1 s0 (v4 + 1) A h
theorem wM_readRule_144 {l : Launch} (hl : l.stackTraces = false) {z : xj_F} (B : xj_B l yM_readRule prog_11_method_30_code 5 (some .boolean) [] 6 z) (k117 : xj_Rf → Int32 → Int32 → Int32 → xj_H → Option xj_R) (hk117 : ∀ (v0 : xj_Rf) (v1 : Int32) (v3 : Int32) (v4 : Int32) (A : xj_H), k117 v0 v1 v3 v4 A = some (xf_r z) → xj_W l z 117 [(0, xj_rv v0), (1, .int v1), (3, .int v3), (4, .int v4)] [] A) (v0 : xj_Rf) (v1 : Int32) (v4 : Int32) (A : xj_H) (h : fM_readRule_144 k117 v0 v1 v4 A = some (xf_r z)) : xj_W l z 144 [(0, xj_rv v0), (1, .int v1), (4, .int v4)] [] A := by
  unfold fM_readRule_144 at h
  refine xg_iconst (pc := 144) (v := 0) B dM_readRule_144 (by decide) ?_
  exact wM_readRule_145 hl B k117 hk117 v0 v1 v4 (0 : Int32) A h
theorem wM_readRule_117 {l : Launch} (hl : l.stackTraces = false) {z : xj_F} (B : xj_B l yM_readRule prog_11_method_30_code 5 (some .boolean) [] 6 z) : ∀ (n : Nat) (v0 : xj_Rf) (v1 : Int32) (v3 : Int32) (v4 : Int32) (A : xj_H), fM_readRule_117 n v0 v1 v3 v4 A = some (xf_r z) → xj_W l z 117 [(0, xj_rv v0), (1, .int v1), (3, .int v3), (4, .int v4)] [] A
  | 0, _, _, _, _, _, h => by simp [fM_readRule_117] at h
  | n + 1, v0, v1, v3, v4, A, h => by
    rw [fM_readRule_117] at h
    refine xg_iload (pc := 117) (i := 4) B dM_readRule_117 rfl ?_
    refine xg_aload_n (pc := 119) (i := 0) (r := v0) B dM_readRule_119 rfl rfl ?_
    refine xg_geti (pc := 120) B dM_readRule_120 flM_168 h (fun x1 ex1 h => ?_)
    refine xg_icmp_ge (pc := 123) (tgt := 152) B dM_readRule_123 (by decide) h (fun c123 h => ?_) (fun c123 h => ?_)
    · refine xg_aload_n (pc := 152) (i := 0) (r := v0) B dM_readRule_152 rfl rfl ?_
      refine xg_geti (pc := 153) B dM_readRule_153 flM_115 h (fun x2 ex2 h => ?_)
      refine xg_aload_n (pc := 156) (i := 0) (r := v0) B dM_readRule_156 rfl rfl ?_
      refine xg_geti (pc := 157) B dM_readRule_157 flM_112 h (fun x3 ex3 h => ?_)
      refine xg_icmp_ne (pc := 160) (tgt := 210) B dM_readRule_160 (by decide) h (fun c160 h => ?_) (fun c160 h => ?_)
      · refine xg_sub (ls' := []) [] rfl ?_
        exact wM_readRule_210 hl B  A h
      · refine xg_iload_n (pc := 163) (i := 1) B dM_readRule_163 rfl rfl ?_
        refine xg_iconst (pc := 164) (v := 1) B dM_readRule_164 (by decide) ?_
        refine xg_iand (pc := 165) B dM_readRule_165 ?_
        refine xg_iconst (pc := 166) (v := 1) B dM_readRule_166 (by decide) ?_
        refine xg_icmp_ne (pc := 167) (tgt := 210) B dM_readRule_167 (by decide) h (fun c167 h => ?_) (fun c167 h => ?_)
        · refine xg_sub (ls' := []) [] rfl ?_
          exact wM_readRule_210 hl B  A h
        · refine xg_iload_n (pc := 170) (i := 1) B dM_readRule_170 rfl rfl ?_
          refine xg_bipush (pc := 171) (v := 12) B dM_readRule_171 (by decide) ?_
          refine xg_iand (pc := 173) B dM_readRule_173 ?_
          refine xg_bipush (pc := 174) (v := 12) B dM_readRule_174 (by decide) ?_
          refine xg_icmp_eq (pc := 176) (tgt := 210) B dM_readRule_176 (by decide) h (fun c176 h => ?_) (fun c176 h => ?_)
          · refine xg_sub (ls' := []) [] rfl ?_
            exact wM_readRule_210 hl B  A h
          · refine xg_iload_n (pc := 179) (i := 3) B dM_readRule_179 rfl rfl ?_
            refine xg_if_ne (pc := 180) (tgt := 191) B dM_readRule_180 (by decide) h (fun c180 h => ?_) (fun c180 h => ?_)
            · refine xg_sub (ls' := [(0, xj_rv v0), (1, .int v1)]) [0, 1] rfl ?_
              exact wM_readRule_191 hl B v0 v1 A h
            · refine xg_aload_n (pc := 183) (i := 0) (r := v0) B dM_readRule_183 rfl rfl ?_
              refine xg_geti (pc := 184) B dM_readRule_184 flM_138 h (fun x4 ex4 h => ?_)
              refine xg_iconst (pc := 187) (v := 2) B dM_readRule_187 (by decide) ?_
              refine xg_icmp_le (pc := 188) (tgt := 210) B dM_readRule_188 (by decide) h (fun c188 h => ?_) (fun c188 h => ?_)
              · refine xg_sub (ls' := []) [] rfl ?_
                exact wM_readRule_210 hl B  A h
              · refine xg_sub (ls' := [(0, xj_rv v0), (1, .int v1)]) [0, 1] rfl ?_
                exact wM_readRule_191 hl B v0 v1 A h
    · refine xg_iload_n (pc := 126) (i := 3) B dM_readRule_126 rfl rfl ?_
      refine xg_if_eq (pc := 127) (tgt := 144) B dM_readRule_127 (by decide) h (fun c127 h => ?_) (fun c127 h => ?_)
      · refine xg_sub (ls' := [(0, xj_rv v0), (1, .int v1), (4, .int v4)]) [0, 1, 3] rfl ?_
        exact wM_readRule_144 hl B (fM_readRule_117 n) (wM_readRule_117 hl B n) v0 v1 v4 A h
      · refine xg_aload_n (pc := 130) (i := 0) (r := v0) B dM_readRule_130 rfl rfl ?_
        refine xg_getr (pc := 131) B dM_readRule_131 flM_47 h (fun x5 ex5 h => ?_)
        refine xg_iload (pc := 134) (i := 4) B dM_readRule_134 rfl ?_
        refine xg_iaload (pc := 136) B dM_readRule_136 h (fun x6 ex6 h => ?_)
        refine xg_if_ne (pc := 137) (tgt := 144) B dM_readRule_137 (by decide) h (fun c137 h => ?_) (fun c137 h => ?_)
        · refine xg_sub (ls' := [(0, xj_rv v0), (1, .int v1), (4, .int v4)]) [0, 1, 3] rfl ?_
          exact wM_readRule_144 hl B (fM_readRule_117 n) (wM_readRule_117 hl B n) v0 v1 v4 A h
        · refine xg_iconst (pc := 140) (v := 1) B dM_readRule_140 (by decide) ?_
          refine xg_goto (pc := 141) (tgt := 145) B dM_readRule_141 (by decide) ?_
          refine xg_sub (ls' := [(0, xj_rv v0), (1, .int v1), (4, .int v4)]) [0, 1, 3] rfl ?_
          exact wM_readRule_145 hl B (fM_readRule_117 n) (wM_readRule_117 hl B n) v0 v1 v4 (1 : Int32) A h
theorem wM_readRule_96 {l : Launch} (hl : l.stackTraces = false) {z : xj_F} (B : xj_B l yM_readRule prog_11_method_30_code 5 (some .boolean) [] 6 z) (A : xj_H) (h : fM_readRule_96  A = some (xf_r z)) : xj_W l z 96 [] [] A := by
  unfold fM_readRule_96 at h
  refine xg_iconst (pc := 96) (v := 0) B dM_readRule_96 (by decide) ?_
  exact xg_zret B dM_readRule_97 h
theorem wM_readRule_77 {l : Launch} (hl : l.stackTraces = false) {z : xj_F} (B : xj_B l yM_readRule prog_11_method_30_code 5 (some .boolean) [] 6 z) : ∀ (n : Nat) (v0 : xj_Rf) (v1 : Int32) (v2 : Int32) (A : xj_H), fM_readRule_77 n v0 v1 v2 A = some (xf_r z) → xj_W l z 77 [(0, xj_rv v0), (1, .int v1), (2, .int v2)] [] A
  | 0, _, _, _, _, h => by simp [fM_readRule_77] at h
  | n + 1, v0, v1, v2, A, h => by
    rw [fM_readRule_77] at h
    refine xg_iload_n (pc := 77) (i := 2) B dM_readRule_77 rfl rfl ?_
    refine xg_if_eq (pc := 78) (tgt := 112) B dM_readRule_78 (by decide) h (fun c78 h => ?_) (fun c78 h => ?_)
    · refine xg_iconst (pc := 112) (v := 1) B dM_readRule_112 (by decide) ?_
      refine xg_istore_n (pc := 113) (i := 3) (ls' := [(3, .int (1 : Int32)), (0, xj_rv v0), (1, .int v1), (2, .int v2)]) B dM_readRule_113 rfl (by decide) ⟨xj_nq (a := 0) (i := 3) (by decide), xj_nq (a := 1) (i := 3) (by decide), fun _ => rfl, trivial⟩ rfl ?_
      refine xg_iconst (pc := 114) (v := 0) B dM_readRule_114 (by decide) ?_
      refine xg_istore (pc := 115) (i := 4) (ls' := [(4, .int (0 : Int32)), (3, .int (1 : Int32)), (0, xj_rv v0), (1, .int v1), (2, .int v2)]) B dM_readRule_115 (by decide) ⟨fun _ => rfl, xj_nq (a := 0) (i := 4) (by decide), xj_nq (a := 1) (i := 4) (by decide), xj_nq (a := 2) (i := 4) (by decide), trivial⟩ rfl ?_
      refine xg_sub (ls' := [(0, xj_rv v0), (1, .int v1), (3, .int (1 : Int32)), (4, .int (0 : Int32))]) [2, 3, 1, 0] rfl ?_
      exact wM_readRule_117 hl B xj_fu v0 v1 (1 : Int32) (0 : Int32) A h
    · refine xg_aload_n (pc := 81) (i := 0) (r := v0) B dM_readRule_81 rfl rfl ?_
      obtain ⟨hq82, h⟩ := xj_rq_i h
      refine xg_ci (pc := 82) (av := [xj_rv v0]) (st := []) (cy := prog_11_method_29_code) (nLy := 3) (rety := (some .int)) (hsy := []) B dM_readRule_82 (xj_go_v B dM_readRule_82 vwM_215 rfl hq82) (xj_vw_c vwM_215) (xj_vw_i vwM_215) (by decide) (by decide) (by decide) rfl (fun r9 h9 => cM_readPart hl _ _ r9 h9) h (fun x1 A2 eA2 h => ?_)
      refine xg_istore_n (pc := 85) (i := 3) (ls' := [(3, .int x1), (0, xj_rv v0), (1, .int v1), (2, .int v2)]) B dM_readRule_85 rfl (by decide) ⟨xj_nq (a := 0) (i := 3) (by decide), xj_nq (a := 1) (i := 3) (by decide), fun _ => rfl, trivial⟩ rfl ?_
      refine xg_iload_n (pc := 86) (i := 3) B dM_readRule_86 rfl rfl ?_
      refine xg_if_eq (pc := 87) (tgt := 96) B dM_readRule_87 (by decide) h (fun c87 h => ?_) (fun c87 h => ?_)
      · refine xg_sub (ls' := []) [] rfl ?_
        exact wM_readRule_96 hl B  A2 h
      · refine xg_iload_n (pc := 90) (i := 1) B dM_readRule_90 rfl rfl ?_
        refine xg_iload_n (pc := 91) (i := 3) B dM_readRule_91 rfl rfl ?_
        refine xg_iand (pc := 92) B dM_readRule_92 ?_
        refine xg_if_eq (pc := 93) (tgt := 98) B dM_readRule_93 (by decide) h (fun c93 h => ?_) (fun c93 h => ?_)
        · refine xg_iload_n (pc := 98) (i := 1) B dM_readRule_98 rfl rfl ?_
          refine xg_iload_n (pc := 99) (i := 3) B dM_readRule_99 rfl rfl ?_
          refine xg_ior (pc := 100) B dM_readRule_100 ?_
          refine xg_istore_n (pc := 101) (i := 1) (ls' := [(1, .int (v1 ||| x1)), (3, .int x1), (0, xj_rv v0), (2, .int v2)]) B dM_readRule_101 rfl (by decide) ⟨xj_nq (a := 3) (i := 1) (by decide), fun _ => xj_rv_cat v0, xj_nq (a := 1) (i := 1) (by decide), xj_nq (a := 2) (i := 1) (by decide), trivial⟩ rfl ?_
          refine xg_aload_n (pc := 102) (i := 0) (r := v0) B dM_readRule_102 rfl rfl ?_
          refine xg_bipush (pc := 103) (v := 59) B dM_readRule_103 (by decide) ?_
          obtain ⟨hq105, h⟩ := xj_rq_i h
          refine xg_ci (pc := 105) (av := [xj_rv v0, .int (59 : Int32)]) (st := []) (cy := prog_11_method_20_code) (nLy := 3) (rety := (some .boolean)) (hsy := []) B dM_readRule_105 (xj_go_v B dM_readRule_105 vwM_161 rfl hq105) (xj_vw_c vwM_161) (xj_vw_i vwM_161) (by decide) (by decide) (by decide) rfl (fun r9 h9 => cM_takes hl _ _ _ r9 h9) h (fun x3 A4 eA4 h => ?_)
          refine xg_istore_n (pc := 108) (i := 2) (ls' := [(2, .int x3), (1, .int (v1 ||| x1)), (3, .int x1), (0, xj_rv v0)]) B dM_readRule_108 rfl (by decide) ⟨fun _ => rfl, xj_nq (a := 3) (i := 2) (by decide), xj_nq (a := 0) (i := 2) (by decide), xj_nq (a := 2) (i := 2) (by decide), trivial⟩ rfl ?_
          refine xg_goto (pc := 109) (tgt := 77) B dM_readRule_109 (by decide) ?_
          refine xg_sub (ls' := [(0, xj_rv v0), (1, .int (v1 ||| x1)), (2, .int x3)]) [3, 1, 0] rfl ?_
          exact (wM_readRule_77 hl B n) v0 (v1 ||| x1) x3 A4 h
        · refine xg_sub (ls' := []) [] rfl ?_
          exact wM_readRule_96 hl B  A2 h
theorem wM_readRule_35 {l : Launch} (hl : l.stackTraces = false) {z : xj_F} (B : xj_B l yM_readRule prog_11_method_30_code 5 (some .boolean) [] 6 z) : ∀ (n : Nat) (v0 : xj_Rf) (v1 : Int32) (A : xj_H), fM_readRule_35 n v0 v1 A = some (xf_r z) → xj_W l z 35 [(0, xj_rv v0), (1, .int v1)] [] A
  | 0, _, _, _, h => by simp [fM_readRule_35] at h
  | n + 1, v0, v1, A, h => by
    rw [fM_readRule_35] at h
    refine xg_iload_n (pc := 35) (i := 1) B dM_readRule_35 rfl rfl ?_
    refine xg_bipush (pc := 36) (v := 13) B dM_readRule_36 (by decide) ?_
    refine xg_icmp_ge (pc := 38) (tgt := 54) B dM_readRule_38 (by decide) h (fun c38 h => ?_) (fun c38 h => ?_)
    · refine xg_aload_n (pc := 54) (i := 0) (r := v0) B dM_readRule_54 rfl rfl ?_
      refine xg_iconst (pc := 55) (v := 0) B dM_readRule_55 (by decide) ?_
      refine xg_puti (pc := 56) B dM_readRule_56 (fpM_171 _) h (fun A1 eA1 h => ?_)
      refine xg_aload_n (pc := 59) (i := 0) (r := v0) B dM_readRule_59 rfl rfl ?_
      refine xg_iconst (pc := 60) (v := 0) B dM_readRule_60 (by decide) ?_
      refine xg_puti (pc := 61) B dM_readRule_61 (fpM_168 _) h (fun A2 eA2 h => ?_)
      refine xg_aload_n (pc := 64) (i := 0) (r := v0) B dM_readRule_64 rfl rfl ?_
      refine xg_geti (pc := 65) B dM_readRule_65 flM_112 h (fun x3 ex3 h => ?_)
      refine xg_if_ne (pc := 68) (tgt := 73) B dM_readRule_68 (by decide) h (fun c68 h => ?_) (fun c68 h => ?_)
      · refine xg_iconst (pc := 73) (v := 0) B dM_readRule_73 (by decide) ?_
        refine xg_istore_n (pc := 74) (i := 1) (ls' := [(1, .int (0 : Int32)), (0, xj_rv v0)]) B dM_readRule_74 rfl (by decide) ⟨fun _ => xj_rv_cat v0, xj_nq (a := 1) (i := 1) (by decide), trivial⟩ rfl ?_
        refine xg_iconst (pc := 75) (v := 1) B dM_readRule_75 (by decide) ?_
        refine xg_istore_n (pc := 76) (i := 2) (ls' := [(2, .int (1 : Int32)), (1, .int (0 : Int32)), (0, xj_rv v0)]) B dM_readRule_76 rfl (by decide) ⟨fun _ => rfl, xj_nq (a := 0) (i := 2) (by decide), trivial⟩ rfl ?_
        refine xg_sub (ls' := [(0, xj_rv v0), (1, .int (0 : Int32)), (2, .int (1 : Int32))]) [2, 1, 0] rfl ?_
        exact wM_readRule_77 hl B xj_fu v0 (0 : Int32) (1 : Int32) A2 h
      · refine xg_iconst (pc := 71) (v := 1) B dM_readRule_71 (by decide) ?_
        exact xg_zret B dM_readRule_72 h
    · refine xg_aload_n (pc := 41) (i := 0) (r := v0) B dM_readRule_41 rfl rfl ?_
      refine xg_getr (pc := 42) B dM_readRule_42 flM_37 h (fun x4 ex4 h => ?_)
      refine xg_iload_n (pc := 45) (i := 1) B dM_readRule_45 rfl rfl ?_
      refine xg_iconst (pc := 46) (v := 0) B dM_readRule_46 (by decide) ?_
      refine xg_zastore (pc := 47) B dM_readRule_47 h (fun A5 eA5 h => ?_)
      refine xg_iinc (pc := 48) (i := 1) (v := (v1 + 1)) (ls' := [(1, .int (v1 + 1)), (0, xj_rv v0)]) B dM_readRule_48 rfl (xj_inc_1 _) (by decide) ⟨fun _ => xj_rv_cat v0, xj_nq (a := 1) (i := 1) (by decide), trivial⟩ rfl ?_
      refine xg_goto (pc := 51) (tgt := 35) B dM_readRule_51 (by decide) ?_
      refine xg_sub (ls' := [(0, xj_rv v0), (1, .int (v1 + 1))]) [1, 0] rfl ?_
      exact (wM_readRule_35 hl B n) v0 (v1 + 1) A5 h
theorem wM_readRule {l : Launch} (hl : l.stackTraces = false) {z : xj_F} (B : xj_B l yM_readRule prog_11_method_30_code 5 (some .boolean) [] 6 z) (v0 : xj_Rf) (A : xj_H) (h : fM_readRule v0 A = some (xf_r z)) : xj_W l z 0 [(0, xj_rv v0)] [] A := by
  unfold fM_readRule at h
  refine xg_aload_n (pc := 0) (i := 0) (r := v0) B dM_readRule_0 rfl rfl ?_
  refine xg_iconst (pc := 1) (v := 0) B dM_readRule_1 (by decide) ?_
  refine xg_puti (pc := 2) B dM_readRule_2 (fpM_115 _) h (fun A1 eA1 h => ?_)
  refine xg_aload_n (pc := 5) (i := 0) (r := v0) B dM_readRule_5 rfl rfl ?_
  refine xg_iconst (pc := 6) (v := 0) B dM_readRule_6 (by decide) ?_
  refine xg_puti (pc := 7) B dM_readRule_7 (fpM_138 _) h (fun A2 eA2 h => ?_)
  refine xg_aload_n (pc := 10) (i := 0) (r := v0) B dM_readRule_10 rfl rfl ?_
  refine xg_iconst (pc := 11) (v := 1) B dM_readRule_11 (by decide) ?_
  refine xg_puti (pc := 12) B dM_readRule_12 (fpM_192 _) h (fun A3 eA3 h => ?_)
  refine xg_aload_n (pc := 15) (i := 0) (r := v0) B dM_readRule_15 rfl rfl ?_
  refine xg_sipush (pc := 16) (v := 200) B dM_readRule_16 (by decide) ?_
  refine xg_puti (pc := 19) B dM_readRule_19 (fpM_197 _) h (fun A4 eA4 h => ?_)
  refine xg_aload_n (pc := 22) (i := 0) (r := v0) B dM_readRule_22 rfl rfl ?_
  refine xg_ldc (pc := 23) (v := 36524) B dM_readRule_23 kM_214 ?_
  refine xg_puti (pc := 25) B dM_readRule_25 (fpM_144 _) h (fun A5 eA5 h => ?_)
  refine xg_aload_n (pc := 28) (i := 0) (r := v0) B dM_readRule_28 rfl rfl ?_
  refine xg_iconst (pc := 29) (v := 0) B dM_readRule_29 (by decide) ?_
  refine xg_putz (pc := 30) B dM_readRule_30 (fpM_174 _) h (fun A6 eA6 h => ?_)
  refine xg_iconst (pc := 33) (v := 0) B dM_readRule_33 (by decide) ?_
  refine xg_istore_n (pc := 34) (i := 1) (ls' := [(1, .int (0 : Int32)), (0, xj_rv v0)]) B dM_readRule_34 rfl (by decide) ⟨fun _ => xj_rv_cat v0, trivial⟩ rfl ?_
  refine xg_sub (ls' := [(0, xj_rv v0), (1, .int (0 : Int32))]) [1, 0] rfl ?_
  exact wM_readRule_35 hl B xj_fu v0 (0 : Int32) A6 h
theorem cM_readRule {l : Launch} (hl : l.stackTraces = false) (v0 : xj_Rf) (A : xj_H) (r : xj_R) (h : fM_readRule v0 A = some r) : xj_M l yM_readRule prog_11_method_30_code 5 (some .boolean) [] 6 [xj_rv v0] A r := by
  refine xj_M.of hl (by decide +kernel) (by simp [lg_sl, xj_ic, xj_lc, xj_rv_cat]) (fun z B hA hr => ?_)
  subst hr
  have hw := wM_readRule hl B v0 A h
  simpa [lv_args, xj_ic, xj_lc, xj_rv_cat] using hw
/-! RecurrenceBookModel.byMonthDay()Z -/
def fM_byMonthDay_86 (k27 : xj_Rf → Int32 → Int32 → Int32 → xj_H → Option xj_R) (v0 : xj_Rf) (v2 : Int32) (v3 : Int32) (s0 : Int32) (A : xj_H) : Option xj_R :=
  k27 v0 s0 v2 (v3 + 1) A
def fM_byMonthDay_85 (k27 : xj_Rf → Int32 → Int32 → Int32 → xj_H → Option xj_R) (v0 : xj_Rf) (v2 : Int32) (v3 : Int32) (A : xj_H) : Option xj_R :=
  fM_byMonthDay_86 k27 v0 v2 v3 (0 : Int32) A
def fM_byMonthDay_81 (k27 : xj_Rf → Int32 → Int32 → Int32 → xj_H → Option xj_R) (v0 : xj_Rf) (v2 : Int32) (v3 : Int32) (A : xj_H) : Option xj_R :=
  fM_byMonthDay_86 k27 v0 v2 v3 (1 : Int32) A
def fM_byMonthDay_27 : Nat → xj_Rf → Int32 → Int32 → Int32 → xj_H → Option xj_R
  | 0, _, _, _, _, _ => none
  | n + 1, v0, v1, v2, v3, A =>
    (xj_gi A v0 7 22).bind fun x1 =>
    if x1 ≤ v3 then
      xj_rz v1 A
    else
      if ¬ v1 = 0 then
        fM_byMonthDay_81 (fM_byMonthDay_27 n) v0 v2 v3 A
      else
        (xj_gr A v0 7 21).bind fun x2 =>
        (xj_ai A x2 0 v3).bind fun x3 =>
        if x3 ≤ 0 then
          (xj_gr A v0 7 21).bind fun x4 =>
          (xj_ai A x4 0 v3).bind fun x5 =>
          (xj_gi A v0 7 28).bind fun x6 =>
          if ¬ ((v2 + (1 : Int32)) + x5) = x6 then
            fM_byMonthDay_85 (fM_byMonthDay_27 n) v0 v2 v3 A
          else
            fM_byMonthDay_81 (fM_byMonthDay_27 n) v0 v2 v3 A
        else
          (xj_gr A v0 7 21).bind fun x7 =>
          (xj_ai A x7 0 v3).bind fun x8 =>
          (xj_gi A v0 7 28).bind fun x9 =>
          if ¬ x8 = x9 then
            fM_byMonthDay_85 (fM_byMonthDay_27 n) v0 v2 v3 A
          else
            fM_byMonthDay_81 (fM_byMonthDay_27 n) v0 v2 v3 A
def fM_byMonthDay_12 (v0 : xj_Rf) (s0 : Int32) (A : xj_H) : Option xj_R :=
  (xj_gi A v0 7 26).bind fun x1 =>
  (xj_gi A v0 7 27).bind fun x2 =>
  xj_bi (fM_monthLength x1 x2 A) fun x3 A4 =>
  fM_byMonthDay_27 xj_fu v0 s0 x3 (0 : Int32) A4
def fM_byMonthDay (v0 : xj_Rf) (A : xj_H) : Option xj_R :=
  (xj_gi A v0 7 22).bind fun x1 =>
  if ¬ x1 = 0 then
    fM_byMonthDay_12 v0 (0 : Int32) A
  else
    fM_byMonthDay_12 v0 (1 : Int32) A
theorem wM_byMonthDay_86 {l : Launch} (hl : l.stackTraces = false) {z : xj_F} (B : xj_B l yM_byMonthDay prog_11_method_31_code 4 (some .boolean) [] 2 z) (k27 : xj_Rf → Int32 → Int32 → Int32 → xj_H → Option xj_R) (hk27 : ∀ (v0 : xj_Rf) (v1 : Int32) (v2 : Int32) (v3 : Int32) (A : xj_H), k27 v0 v1 v2 v3 A = some (xf_r z) → xj_W l z 27 [(0, xj_rv v0), (1, .int v1), (2, .int v2), (3, .int v3)] [] A) (v0 : xj_Rf) (v2 : Int32) (v3 : Int32) (s0 : Int32) (A : xj_H) (h : fM_byMonthDay_86 k27 v0 v2 v3 s0 A = some (xf_r z)) : xj_W l z 86 [(0, xj_rv v0), (2, .int v2), (3, .int v3)] [.int s0] A := by
  unfold fM_byMonthDay_86 at h
  refine xg_istore_n (pc := 86) (i := 1) (ls' := [(1, .int s0), (0, xj_rv v0), (2, .int v2), (3, .int v3)]) B dM_byMonthDay_86 rfl (by decide) ⟨fun _ => xj_rv_cat v0, xj_nq (a := 2) (i := 1) (by decide), xj_nq (a := 3) (i := 1) (by decide), trivial⟩ rfl ?_
  refine xg_iinc (pc := 87) (i := 3) (v := (v3 + 1)) (ls' := [(3, .int (v3 + 1)), (1, .int s0), (0, xj_rv v0), (2, .int v2)]) B dM_byMonthDay_87 rfl (xj_inc_1 _) (by decide) ⟨xj_nq (a := 1) (i := 3) (by decide), xj_nq (a := 0) (i := 3) (by decide), fun _ => rfl, xj_nq (a := 3) (i := 3) (by decide), trivial⟩ rfl ?_
  refine xg_goto (pc := 90) (tgt := 27) B dM_byMonthDay_90 (by decide) ?_
  refine xg_sub (ls' := [(0, xj_rv v0), (1, .int s0), (2, .int v2), (3, .int (v3 + 1))]) [2, 1, 3, 0] rfl ?_
  exact hk27 v0 s0 v2 (v3 + 1) A h
theorem wM_byMonthDay_85 {l : Launch} (hl : l.stackTraces = false) {z : xj_F} (B : xj_B l yM_byMonthDay prog_11_method_31_code 4 (some .boolean) [] 2 z) (k27 : xj_Rf → Int32 → Int32 → Int32 → xj_H → Option xj_R) (hk27 : ∀ (v0 : xj_Rf) (v1 : Int32) (v2 : Int32) (v3 : Int32) (A : xj_H), k27 v0 v1 v2 v3 A = some (xf_r z) → xj_W l z 27 [(0, xj_rv v0), (1, .int v1), (2, .int v2), (3, .int v3)] [] A) (v0 : xj_Rf) (v2 : Int32) (v3 : Int32) (A : xj_H) (h : fM_byMonthDay_85 k27 v0 v2 v3 A = some (xf_r z)) : xj_W l z 85 [(0, xj_rv v0), (2, .int v2), (3, .int v3)] [] A := by
  unfold fM_byMonthDay_85 at h
  refine xg_iconst (pc := 85) (v := 0) B dM_byMonthDay_85 (by decide) ?_
  exact wM_byMonthDay_86 hl B k27 hk27 v0 v2 v3 (0 : Int32) A h
theorem wM_byMonthDay_81 {l : Launch} (hl : l.stackTraces = false) {z : xj_F} (B : xj_B l yM_byMonthDay prog_11_method_31_code 4 (some .boolean) [] 2 z) (k27 : xj_Rf → Int32 → Int32 → Int32 → xj_H → Option xj_R) (hk27 : ∀ (v0 : xj_Rf) (v1 : Int32) (v2 : Int32) (v3 : Int32) (A : xj_H), k27 v0 v1 v2 v3 A = some (xf_r z) → xj_W l z 27 [(0, xj_rv v0), (1, .int v1), (2, .int v2), (3, .int v3)] [] A) (v0 : xj_Rf) (v2 : Int32) (v3 : Int32) (A : xj_H) (h : fM_byMonthDay_81 k27 v0 v2 v3 A = some (xf_r z)) : xj_W l z 81 [(0, xj_rv v0), (2, .int v2), (3, .int v3)] [] A := by
  unfold fM_byMonthDay_81 at h
  refine xg_iconst (pc := 81) (v := 1) B dM_byMonthDay_81 (by decide) ?_
  refine xg_goto (pc := 82) (tgt := 86) B dM_byMonthDay_82 (by decide) ?_
  exact wM_byMonthDay_86 hl B k27 hk27 v0 v2 v3 (1 : Int32) A h
theorem wM_byMonthDay_27 {l : Launch} (hl : l.stackTraces = false) {z : xj_F} (B : xj_B l yM_byMonthDay prog_11_method_31_code 4 (some .boolean) [] 2 z) : ∀ (n : Nat) (v0 : xj_Rf) (v1 : Int32) (v2 : Int32) (v3 : Int32) (A : xj_H), fM_byMonthDay_27 n v0 v1 v2 v3 A = some (xf_r z) → xj_W l z 27 [(0, xj_rv v0), (1, .int v1), (2, .int v2), (3, .int v3)] [] A
  | 0, _, _, _, _, _, h => by simp [fM_byMonthDay_27] at h
  | n + 1, v0, v1, v2, v3, A, h => by
    rw [fM_byMonthDay_27] at h
    refine xg_iload_n (pc := 27) (i := 3) B dM_byMonthDay_27 rfl rfl ?_
    refine xg_aload_n (pc := 28) (i := 0) (r := v0) B dM_byMonthDay_28 rfl rfl ?_
    refine xg_geti (pc := 29) B dM_byMonthDay_29 flM_171 h (fun x1 ex1 h => ?_)
    refine xg_icmp_ge (pc := 32) (tgt := 93) B dM_byMonthDay_32 (by decide) h (fun c32 h => ?_) (fun c32 h => ?_)
    · refine xg_iload_n (pc := 93) (i := 1) B dM_byMonthDay_93 rfl rfl ?_
      exact xg_zret B dM_byMonthDay_94 h
    · refine xg_iload_n (pc := 35) (i := 1) B dM_byMonthDay_35 rfl rfl ?_
      refine xg_if_ne (pc := 36) (tgt := 81) B dM_byMonthDay_36 (by decide) h (fun c36 h => ?_) (fun c36 h => ?_)
      · refine xg_sub (ls' := [(0, xj_rv v0), (2, .int v2), (3, .int v3)]) [0, 2, 3] rfl ?_
        exact wM_byMonthDay_81 hl B (fM_byMonthDay_27 n) (wM_byMonthDay_27 hl B n) v0 v2 v3 A h
      · refine xg_aload_n (pc := 39) (i := 0) (r := v0) B dM_byMonthDay_39 rfl rfl ?_
        refine xg_getr (pc := 40) B dM_byMonthDay_40 flM_41 h (fun x2 ex2 h => ?_)
        refine xg_iload_n (pc := 43) (i := 3) B dM_byMonthDay_43 rfl rfl ?_
        refine xg_iaload (pc := 44) B dM_byMonthDay_44 h (fun x3 ex3 h => ?_)
        refine xg_if_le (pc := 45) (tgt := 64) B dM_byMonthDay_45 (by decide) h (fun c45 h => ?_) (fun c45 h => ?_)
        · refine xg_iload_n (pc := 64) (i := 2) B dM_byMonthDay_64 rfl rfl ?_
          refine xg_iconst (pc := 65) (v := 1) B dM_byMonthDay_65 (by decide) ?_
          refine xg_iadd (pc := 66) B dM_byMonthDay_66 ?_
          refine xg_aload_n (pc := 67) (i := 0) (r := v0) B dM_byMonthDay_67 rfl rfl ?_
          refine xg_getr (pc := 68) B dM_byMonthDay_68 flM_41 h (fun x4 ex4 h => ?_)
          refine xg_iload_n (pc := 71) (i := 3) B dM_byMonthDay_71 rfl rfl ?_
          refine xg_iaload (pc := 72) B dM_byMonthDay_72 h (fun x5 ex5 h => ?_)
          refine xg_iadd (pc := 73) B dM_byMonthDay_73 ?_
          refine xg_aload_n (pc := 74) (i := 0) (r := v0) B dM_byMonthDay_74 rfl rfl ?_
          refine xg_geti (pc := 75) B dM_byMonthDay_75 flM_78 h (fun x6 ex6 h => ?_)
          refine xg_icmp_ne (pc := 78) (tgt := 85) B dM_byMonthDay_78 (by decide) h (fun c78 h => ?_) (fun c78 h => ?_)
          · refine xg_sub (ls' := [(0, xj_rv v0), (2, .int v2), (3, .int v3)]) [0, 2, 3] rfl ?_
            exact wM_byMonthDay_85 hl B (fM_byMonthDay_27 n) (wM_byMonthDay_27 hl B n) v0 v2 v3 A h
          · refine xg_sub (ls' := [(0, xj_rv v0), (2, .int v2), (3, .int v3)]) [0, 2, 3] rfl ?_
            exact wM_byMonthDay_81 hl B (fM_byMonthDay_27 n) (wM_byMonthDay_27 hl B n) v0 v2 v3 A h
        · refine xg_aload_n (pc := 48) (i := 0) (r := v0) B dM_byMonthDay_48 rfl rfl ?_
          refine xg_getr (pc := 49) B dM_byMonthDay_49 flM_41 h (fun x7 ex7 h => ?_)
          refine xg_iload_n (pc := 52) (i := 3) B dM_byMonthDay_52 rfl rfl ?_
          refine xg_iaload (pc := 53) B dM_byMonthDay_53 h (fun x8 ex8 h => ?_)
          refine xg_aload_n (pc := 54) (i := 0) (r := v0) B dM_byMonthDay_54 rfl rfl ?_
          refine xg_geti (pc := 55) B dM_byMonthDay_55 flM_78 h (fun x9 ex9 h => ?_)
          refine xg_icmp_ne (pc := 58) (tgt := 85) B dM_byMonthDay_58 (by decide) h (fun c58 h => ?_) (fun c58 h => ?_)
          · refine xg_sub (ls' := [(0, xj_rv v0), (2, .int v2), (3, .int v3)]) [0, 2, 3] rfl ?_
            exact wM_byMonthDay_85 hl B (fM_byMonthDay_27 n) (wM_byMonthDay_27 hl B n) v0 v2 v3 A h
          · refine xg_goto (pc := 61) (tgt := 81) B dM_byMonthDay_61 (by decide) ?_
            refine xg_sub (ls' := [(0, xj_rv v0), (2, .int v2), (3, .int v3)]) [0, 2, 3] rfl ?_
            exact wM_byMonthDay_81 hl B (fM_byMonthDay_27 n) (wM_byMonthDay_27 hl B n) v0 v2 v3 A h
theorem wM_byMonthDay_12 {l : Launch} (hl : l.stackTraces = false) {z : xj_F} (B : xj_B l yM_byMonthDay prog_11_method_31_code 4 (some .boolean) [] 2 z) (v0 : xj_Rf) (s0 : Int32) (A : xj_H) (h : fM_byMonthDay_12 v0 s0 A = some (xf_r z)) : xj_W l z 12 [(0, xj_rv v0)] [.int s0] A := by
  unfold fM_byMonthDay_12 at h
  refine xg_istore_n (pc := 12) (i := 1) (ls' := [(1, .int s0), (0, xj_rv v0)]) B dM_byMonthDay_12 rfl (by decide) ⟨fun _ => xj_rv_cat v0, trivial⟩ rfl ?_
  refine xg_aload_n (pc := 13) (i := 0) (r := v0) B dM_byMonthDay_13 rfl rfl ?_
  refine xg_geti (pc := 14) B dM_byMonthDay_14 flM_64 h (fun x1 ex1 h => ?_)
  refine xg_aload_n (pc := 17) (i := 0) (r := v0) B dM_byMonthDay_17 rfl rfl ?_
  refine xg_geti (pc := 18) B dM_byMonthDay_18 flM_71 h (fun x2 ex2 h => ?_)
  refine xg_ci (pc := 21) (av := [.int x1, .int x2]) (st := []) (cy := prog_11_method_5_code) (nLy := 2) (rety := (some .int)) (hsy := []) B dM_byMonthDay_21 (xj_go_s B dM_byMonthDay_21 swM_74 rfl) swM_74.2.2.1 swM_74.2.2.2.1 (by decide) (by decide) (by decide) rfl (fun r9 h9 => cM_monthLength hl _ _ _ r9 h9) h (fun x3 A4 eA4 h => ?_)
  refine xg_istore_n (pc := 24) (i := 2) (ls' := [(2, .int x3), (1, .int s0), (0, xj_rv v0)]) B dM_byMonthDay_24 rfl (by decide) ⟨fun _ => rfl, xj_nq (a := 0) (i := 2) (by decide), trivial⟩ rfl ?_
  refine xg_iconst (pc := 25) (v := 0) B dM_byMonthDay_25 (by decide) ?_
  refine xg_istore_n (pc := 26) (i := 3) (ls' := [(3, .int (0 : Int32)), (2, .int x3), (1, .int s0), (0, xj_rv v0)]) B dM_byMonthDay_26 rfl (by decide) ⟨fun _ => rfl, xj_nq (a := 1) (i := 3) (by decide), xj_nq (a := 0) (i := 3) (by decide), trivial⟩ rfl ?_
  refine xg_sub (ls' := [(0, xj_rv v0), (1, .int s0), (2, .int x3), (3, .int (0 : Int32))]) [3, 2, 1, 0] rfl ?_
  exact wM_byMonthDay_27 hl B xj_fu v0 s0 x3 (0 : Int32) A4 h
theorem wM_byMonthDay {l : Launch} (hl : l.stackTraces = false) {z : xj_F} (B : xj_B l yM_byMonthDay prog_11_method_31_code 4 (some .boolean) [] 2 z) (v0 : xj_Rf) (A : xj_H) (h : fM_byMonthDay v0 A = some (xf_r z)) : xj_W l z 0 [(0, xj_rv v0)] [] A := by
  unfold fM_byMonthDay at h
  refine xg_aload_n (pc := 0) (i := 0) (r := v0) B dM_byMonthDay_0 rfl rfl ?_
  refine xg_geti (pc := 1) B dM_byMonthDay_1 flM_171 h (fun x1 ex1 h => ?_)
  refine xg_if_ne (pc := 4) (tgt := 11) B dM_byMonthDay_4 (by decide) h (fun c4 h => ?_) (fun c4 h => ?_)
  · refine xg_iconst (pc := 11) (v := 0) B dM_byMonthDay_11 (by decide) ?_
    exact wM_byMonthDay_12 hl B v0 (0 : Int32) A h
  · refine xg_iconst (pc := 7) (v := 1) B dM_byMonthDay_7 (by decide) ?_
    refine xg_goto (pc := 8) (tgt := 12) B dM_byMonthDay_8 (by decide) ?_
    exact wM_byMonthDay_12 hl B v0 (1 : Int32) A h
theorem cM_byMonthDay {l : Launch} (hl : l.stackTraces = false) (v0 : xj_Rf) (A : xj_H) (r : xj_R) (h : fM_byMonthDay v0 A = some r) : xj_M l yM_byMonthDay prog_11_method_31_code 4 (some .boolean) [] 2 [xj_rv v0] A r := by
  refine xj_M.of hl (by decide +kernel) (by simp [lg_sl, xj_ic, xj_lc, xj_rv_cat]) (fun z B hA hr => ?_)
  subst hr
  have hw := wM_byMonthDay hl B v0 A h
  simpa [lv_args, xj_ic, xj_lc, xj_rv_cat] using hw
/-! RecurrenceBookModel.byWeekday(I)Z -/
def fM_byWeekday_120 (k56 : xj_Rf → Int32 → Int32 → Int32 → Int32 → Int32 → xj_H → Option xj_R) (v0 : xj_Rf) (v3 : Int32) (v4 : Int32) (v5 : Int32) (v6 : Int32) (s0 : Int32) (A : xj_H) : Option xj_R :=
  k56 v0 s0 v3 v4 v5 (v6 + 1) A
def fM_byWeekday_119 (k56 : xj_Rf → Int32 → Int32 → Int32 → Int32 → Int32 → xj_H → Option xj_R) (v0 : xj_Rf) (v3 : Int32) (v4 : Int32) (v5 : Int32) (v6 : Int32) (A : xj_H) : Option xj_R :=
  fM_byWeekday_120 k56 v0 v3 v4 v5 v6 (0 : Int32) A
def fM_byWeekday_115 (k56 : xj_Rf → Int32 → Int32 → Int32 → Int32 → Int32 → xj_H → Option xj_R) (v0 : xj_Rf) (v3 : Int32) (v4 : Int32) (v5 : Int32) (v6 : Int32) (A : xj_H) : Option xj_R :=
  fM_byWeekday_120 k56 v0 v3 v4 v5 v6 (1 : Int32) A
def fM_byWeekday_56 : Nat → xj_Rf → Int32 → Int32 → Int32 → Int32 → Int32 → xj_H → Option xj_R
  | 0, _, _, _, _, _, _, _ => none
  | n + 1, v0, v2, v3, v4, v5, v6, A =>
    (xj_gi A v0 7 25).bind fun x1 =>
    if x1 ≤ v6 then
      xj_rz v2 A
    else
      if ¬ v2 = 0 then
        fM_byWeekday_115 (fM_byWeekday_56 n) v0 v3 v4 v5 v6 A
      else
        (xj_gr A v0 7 23).bind fun x2 =>
        (xj_ai A x2 0 v6).bind fun x3 =>
        if ¬ x3 = v3 then
          fM_byWeekday_119 (fM_byWeekday_56 n) v0 v3 v4 v5 v6 A
        else
          (xj_gr A v0 7 24).bind fun x4 =>
          (xj_ai A x4 0 v6).bind fun x5 =>
          if x5 = 0 then
            fM_byWeekday_115 (fM_byWeekday_56 n) v0 v3 v4 v5 v6 A
          else
            (xj_gr A v0 7 24).bind fun x6 =>
            (xj_ai A x6 0 v6).bind fun x7 =>
            if x7 = v4 then
              fM_byWeekday_115 (fM_byWeekday_56 n) v0 v3 v4 v5 v6 A
            else
              (xj_gr A v0 7 24).bind fun x8 =>
              (xj_ai A x8 0 v6).bind fun x9 =>
              if ¬ x9 = (-v5) then
                fM_byWeekday_119 (fM_byWeekday_56 n) v0 v3 v4 v5 v6 A
              else
                fM_byWeekday_115 (fM_byWeekday_56 n) v0 v3 v4 v5 v6 A
def fM_byWeekday_12 (v0 : xj_Rf) (v1 : Int32) (s0 : Int32) (A : xj_H) : Option xj_R :=
  xj_bi (fM_weekday v1 A) fun x1 A2 =>
  (xj_gi A2 v0 7 28).bind fun x3 =>
  (xj_gi A2 v0 7 26).bind fun x4 =>
  (xj_gi A2 v0 7 27).bind fun x5 =>
  xj_bi (fM_monthLength x4 x5 A2) fun x6 A7 =>
  (xj_gi A7 v0 7 28).bind fun x8 =>
  fM_byWeekday_56 xj_fu v0 s0 x1 ((x3 + (6 : Int32)) / (7 : Int32)) (((x6 - x8) / (7 : Int32)) + (1 : Int32)) (0 : Int32) A7
def fM_byWeekday (v0 : xj_Rf) (v1 : Int32) (A : xj_H) : Option xj_R :=
  (xj_gi A v0 7 25).bind fun x1 =>
  if ¬ x1 = 0 then
    fM_byWeekday_12 v0 v1 (0 : Int32) A
  else
    fM_byWeekday_12 v0 v1 (1 : Int32) A
theorem wM_byWeekday_120 {l : Launch} (hl : l.stackTraces = false) {z : xj_F} (B : xj_B l yM_byWeekday prog_11_method_32_code 7 (some .boolean) [] 2 z) (k56 : xj_Rf → Int32 → Int32 → Int32 → Int32 → Int32 → xj_H → Option xj_R) (hk56 : ∀ (v0 : xj_Rf) (v2 : Int32) (v3 : Int32) (v4 : Int32) (v5 : Int32) (v6 : Int32) (A : xj_H), k56 v0 v2 v3 v4 v5 v6 A = some (xf_r z) → xj_W l z 56 [(0, xj_rv v0), (2, .int v2), (3, .int v3), (4, .int v4), (5, .int v5), (6, .int v6)] [] A) (v0 : xj_Rf) (v3 : Int32) (v4 : Int32) (v5 : Int32) (v6 : Int32) (s0 : Int32) (A : xj_H) (h : fM_byWeekday_120 k56 v0 v3 v4 v5 v6 s0 A = some (xf_r z)) : xj_W l z 120 [(0, xj_rv v0), (3, .int v3), (4, .int v4), (5, .int v5), (6, .int v6)] [.int s0] A := by
  unfold fM_byWeekday_120 at h
  refine xg_istore_n (pc := 120) (i := 2) (ls' := [(2, .int s0), (0, xj_rv v0), (3, .int v3), (4, .int v4), (5, .int v5), (6, .int v6)]) B dM_byWeekday_120 rfl (by decide) ⟨xj_nq (a := 0) (i := 2) (by decide), xj_nq (a := 3) (i := 2) (by decide), xj_nq (a := 4) (i := 2) (by decide), xj_nq (a := 5) (i := 2) (by decide), xj_nq (a := 6) (i := 2) (by decide), trivial⟩ rfl ?_
  refine xg_iinc (pc := 121) (i := 6) (v := (v6 + 1)) (ls' := [(6, .int (v6 + 1)), (2, .int s0), (0, xj_rv v0), (3, .int v3), (4, .int v4), (5, .int v5)]) B dM_byWeekday_121 rfl (xj_inc_1 _) (by decide) ⟨xj_nq (a := 2) (i := 6) (by decide), xj_nq (a := 0) (i := 6) (by decide), xj_nq (a := 3) (i := 6) (by decide), xj_nq (a := 4) (i := 6) (by decide), fun _ => rfl, xj_nq (a := 6) (i := 6) (by decide), trivial⟩ rfl ?_
  refine xg_goto (pc := 124) (tgt := 56) B dM_byWeekday_124 (by decide) ?_
  refine xg_sub (ls' := [(0, xj_rv v0), (2, .int s0), (3, .int v3), (4, .int v4), (5, .int v5), (6, .int (v6 + 1))]) [2, 1, 3, 4, 5, 0] rfl ?_
  exact hk56 v0 s0 v3 v4 v5 (v6 + 1) A h
theorem wM_byWeekday_119 {l : Launch} (hl : l.stackTraces = false) {z : xj_F} (B : xj_B l yM_byWeekday prog_11_method_32_code 7 (some .boolean) [] 2 z) (k56 : xj_Rf → Int32 → Int32 → Int32 → Int32 → Int32 → xj_H → Option xj_R) (hk56 : ∀ (v0 : xj_Rf) (v2 : Int32) (v3 : Int32) (v4 : Int32) (v5 : Int32) (v6 : Int32) (A : xj_H), k56 v0 v2 v3 v4 v5 v6 A = some (xf_r z) → xj_W l z 56 [(0, xj_rv v0), (2, .int v2), (3, .int v3), (4, .int v4), (5, .int v5), (6, .int v6)] [] A) (v0 : xj_Rf) (v3 : Int32) (v4 : Int32) (v5 : Int32) (v6 : Int32) (A : xj_H) (h : fM_byWeekday_119 k56 v0 v3 v4 v5 v6 A = some (xf_r z)) : xj_W l z 119 [(0, xj_rv v0), (3, .int v3), (4, .int v4), (5, .int v5), (6, .int v6)] [] A := by
  unfold fM_byWeekday_119 at h
  refine xg_iconst (pc := 119) (v := 0) B dM_byWeekday_119 (by decide) ?_
  exact wM_byWeekday_120 hl B k56 hk56 v0 v3 v4 v5 v6 (0 : Int32) A h
theorem wM_byWeekday_115 {l : Launch} (hl : l.stackTraces = false) {z : xj_F} (B : xj_B l yM_byWeekday prog_11_method_32_code 7 (some .boolean) [] 2 z) (k56 : xj_Rf → Int32 → Int32 → Int32 → Int32 → Int32 → xj_H → Option xj_R) (hk56 : ∀ (v0 : xj_Rf) (v2 : Int32) (v3 : Int32) (v4 : Int32) (v5 : Int32) (v6 : Int32) (A : xj_H), k56 v0 v2 v3 v4 v5 v6 A = some (xf_r z) → xj_W l z 56 [(0, xj_rv v0), (2, .int v2), (3, .int v3), (4, .int v4), (5, .int v5), (6, .int v6)] [] A) (v0 : xj_Rf) (v3 : Int32) (v4 : Int32) (v5 : Int32) (v6 : Int32) (A : xj_H) (h : fM_byWeekday_115 k56 v0 v3 v4 v5 v6 A = some (xf_r z)) : xj_W l z 115 [(0, xj_rv v0), (3, .int v3), (4, .int v4), (5, .int v5), (6, .int v6)] [] A := by
  unfold fM_byWeekday_115 at h
  refine xg_iconst (pc := 115) (v := 1) B dM_byWeekday_115 (by decide) ?_
  refine xg_goto (pc := 116) (tgt := 120) B dM_byWeekday_116 (by decide) ?_
  exact wM_byWeekday_120 hl B k56 hk56 v0 v3 v4 v5 v6 (1 : Int32) A h
theorem wM_byWeekday_56 {l : Launch} (hl : l.stackTraces = false) {z : xj_F} (B : xj_B l yM_byWeekday prog_11_method_32_code 7 (some .boolean) [] 2 z) : ∀ (n : Nat) (v0 : xj_Rf) (v2 : Int32) (v3 : Int32) (v4 : Int32) (v5 : Int32) (v6 : Int32) (A : xj_H), fM_byWeekday_56 n v0 v2 v3 v4 v5 v6 A = some (xf_r z) → xj_W l z 56 [(0, xj_rv v0), (2, .int v2), (3, .int v3), (4, .int v4), (5, .int v5), (6, .int v6)] [] A
  | 0, _, _, _, _, _, _, _, h => by simp [fM_byWeekday_56] at h
  | n + 1, v0, v2, v3, v4, v5, v6, A, h => by
    rw [fM_byWeekday_56] at h
    refine xg_iload (pc := 56) (i := 6) B dM_byWeekday_56 rfl ?_
    refine xg_aload_n (pc := 58) (i := 0) (r := v0) B dM_byWeekday_58 rfl rfl ?_
    refine xg_geti (pc := 59) B dM_byWeekday_59 flM_168 h (fun x1 ex1 h => ?_)
    refine xg_icmp_ge (pc := 62) (tgt := 127) B dM_byWeekday_62 (by decide) h (fun c62 h => ?_) (fun c62 h => ?_)
    · refine xg_iload_n (pc := 127) (i := 2) B dM_byWeekday_127 rfl rfl ?_
      exact xg_zret B dM_byWeekday_128 h
    · refine xg_iload_n (pc := 65) (i := 2) B dM_byWeekday_65 rfl rfl ?_
      refine xg_if_ne (pc := 66) (tgt := 115) B dM_byWeekday_66 (by decide) h (fun c66 h => ?_) (fun c66 h => ?_)
      · refine xg_sub (ls' := [(0, xj_rv v0), (3, .int v3), (4, .int v4), (5, .int v5), (6, .int v6)]) [0, 2, 3, 4, 5] rfl ?_
        exact wM_byWeekday_115 hl B (fM_byWeekday_56 n) (wM_byWeekday_56 hl B n) v0 v3 v4 v5 v6 A h
      · refine xg_aload_n (pc := 69) (i := 0) (r := v0) B dM_byWeekday_69 rfl rfl ?_
        refine xg_getr (pc := 70) B dM_byWeekday_70 flM_44 h (fun x2 ex2 h => ?_)
        refine xg_iload (pc := 73) (i := 6) B dM_byWeekday_73 rfl ?_
        refine xg_iaload (pc := 75) B dM_byWeekday_75 h (fun x3 ex3 h => ?_)
        refine xg_iload_n (pc := 76) (i := 3) B dM_byWeekday_76 rfl rfl ?_
        refine xg_icmp_ne (pc := 77) (tgt := 119) B dM_byWeekday_77 (by decide) h (fun c77 h => ?_) (fun c77 h => ?_)
        · refine xg_sub (ls' := [(0, xj_rv v0), (3, .int v3), (4, .int v4), (5, .int v5), (6, .int v6)]) [0, 2, 3, 4, 5] rfl ?_
          exact wM_byWeekday_119 hl B (fM_byWeekday_56 n) (wM_byWeekday_56 hl B n) v0 v3 v4 v5 v6 A h
        · refine xg_aload_n (pc := 80) (i := 0) (r := v0) B dM_byWeekday_80 rfl rfl ?_
          refine xg_getr (pc := 81) B dM_byWeekday_81 flM_47 h (fun x4 ex4 h => ?_)
          refine xg_iload (pc := 84) (i := 6) B dM_byWeekday_84 rfl ?_
          refine xg_iaload (pc := 86) B dM_byWeekday_86 h (fun x5 ex5 h => ?_)
          refine xg_if_eq (pc := 87) (tgt := 115) B dM_byWeekday_87 (by decide) h (fun c87 h => ?_) (fun c87 h => ?_)
          · refine xg_sub (ls' := [(0, xj_rv v0), (3, .int v3), (4, .int v4), (5, .int v5), (6, .int v6)]) [0, 2, 3, 4, 5] rfl ?_
            exact wM_byWeekday_115 hl B (fM_byWeekday_56 n) (wM_byWeekday_56 hl B n) v0 v3 v4 v5 v6 A h
          · refine xg_aload_n (pc := 90) (i := 0) (r := v0) B dM_byWeekday_90 rfl rfl ?_
            refine xg_getr (pc := 91) B dM_byWeekday_91 flM_47 h (fun x6 ex6 h => ?_)
            refine xg_iload (pc := 94) (i := 6) B dM_byWeekday_94 rfl ?_
            refine xg_iaload (pc := 96) B dM_byWeekday_96 h (fun x7 ex7 h => ?_)
            refine xg_iload (pc := 97) (i := 4) B dM_byWeekday_97 rfl ?_
            refine xg_icmp_eq (pc := 99) (tgt := 115) B dM_byWeekday_99 (by decide) h (fun c99 h => ?_) (fun c99 h => ?_)
            · refine xg_sub (ls' := [(0, xj_rv v0), (3, .int v3), (4, .int v4), (5, .int v5), (6, .int v6)]) [0, 2, 3, 4, 5] rfl ?_
              exact wM_byWeekday_115 hl B (fM_byWeekday_56 n) (wM_byWeekday_56 hl B n) v0 v3 v4 v5 v6 A h
            · refine xg_aload_n (pc := 102) (i := 0) (r := v0) B dM_byWeekday_102 rfl rfl ?_
              refine xg_getr (pc := 103) B dM_byWeekday_103 flM_47 h (fun x8 ex8 h => ?_)
              refine xg_iload (pc := 106) (i := 6) B dM_byWeekday_106 rfl ?_
              refine xg_iaload (pc := 108) B dM_byWeekday_108 h (fun x9 ex9 h => ?_)
              refine xg_iload (pc := 109) (i := 5) B dM_byWeekday_109 rfl ?_
              refine xg_ineg (pc := 111) B dM_byWeekday_111 ?_
              refine xg_icmp_ne (pc := 112) (tgt := 119) B dM_byWeekday_112 (by decide) h (fun c112 h => ?_) (fun c112 h => ?_)
              · refine xg_sub (ls' := [(0, xj_rv v0), (3, .int v3), (4, .int v4), (5, .int v5), (6, .int v6)]) [0, 2, 3, 4, 5] rfl ?_
                exact wM_byWeekday_119 hl B (fM_byWeekday_56 n) (wM_byWeekday_56 hl B n) v0 v3 v4 v5 v6 A h
              · refine xg_sub (ls' := [(0, xj_rv v0), (3, .int v3), (4, .int v4), (5, .int v5), (6, .int v6)]) [0, 2, 3, 4, 5] rfl ?_
                exact wM_byWeekday_115 hl B (fM_byWeekday_56 n) (wM_byWeekday_56 hl B n) v0 v3 v4 v5 v6 A h
theorem wM_byWeekday_12 {l : Launch} (hl : l.stackTraces = false) {z : xj_F} (B : xj_B l yM_byWeekday prog_11_method_32_code 7 (some .boolean) [] 2 z) (v0 : xj_Rf) (v1 : Int32) (s0 : Int32) (A : xj_H) (h : fM_byWeekday_12 v0 v1 s0 A = some (xf_r z)) : xj_W l z 12 [(0, xj_rv v0), (1, .int v1)] [.int s0] A := by
  unfold fM_byWeekday_12 at h
  refine xg_istore_n (pc := 12) (i := 2) (ls' := [(2, .int s0), (0, xj_rv v0), (1, .int v1)]) B dM_byWeekday_12 rfl (by decide) ⟨xj_nq (a := 0) (i := 2) (by decide), fun _ => rfl, trivial⟩ rfl ?_
  refine xg_iload_n (pc := 13) (i := 1) B dM_byWeekday_13 rfl rfl ?_
  refine xg_ci (pc := 14) (av := [.int v1]) (st := []) (cy := prog_11_method_9_code) (nLy := 1) (rety := (some .int)) (hsy := []) B dM_byWeekday_14 (xj_go_s B dM_byWeekday_14 swM_89 rfl) swM_89.2.2.1 swM_89.2.2.2.1 (by decide) (by decide) (by decide) rfl (fun r9 h9 => cM_weekday hl _ _ r9 h9) h (fun x1 A2 eA2 h => ?_)
  refine xg_istore_n (pc := 17) (i := 3) (ls' := [(3, .int x1), (2, .int s0), (0, xj_rv v0), (1, .int v1)]) B dM_byWeekday_17 rfl (by decide) ⟨fun _ => rfl, xj_nq (a := 0) (i := 3) (by decide), xj_nq (a := 1) (i := 3) (by decide), trivial⟩ rfl ?_
  refine xg_aload_n (pc := 18) (i := 0) (r := v0) B dM_byWeekday_18 rfl rfl ?_
  refine xg_geti (pc := 19) B dM_byWeekday_19 flM_78 h (fun x3 ex3 h => ?_)
  refine xg_bipush (pc := 22) (v := 6) B dM_byWeekday_22 (by decide) ?_
  refine xg_iadd (pc := 24) B dM_byWeekday_24 ?_
  refine xg_bipush (pc := 25) (v := 7) B dM_byWeekday_25 (by decide) ?_
  refine xg_idiv (pc := 27) B dM_byWeekday_27 (by decide) ?_
  refine xg_istore (pc := 28) (i := 4) (ls' := [(4, .int ((x3 + (6 : Int32)) / (7 : Int32))), (3, .int x1), (2, .int s0), (0, xj_rv v0), (1, .int v1)]) B dM_byWeekday_28 (by decide) ⟨fun _ => rfl, xj_nq (a := 2) (i := 4) (by decide), xj_nq (a := 0) (i := 4) (by decide), xj_nq (a := 1) (i := 4) (by decide), trivial⟩ rfl ?_
  refine xg_aload_n (pc := 30) (i := 0) (r := v0) B dM_byWeekday_30 rfl rfl ?_
  refine xg_geti (pc := 31) B dM_byWeekday_31 flM_64 h (fun x4 ex4 h => ?_)
  refine xg_aload_n (pc := 34) (i := 0) (r := v0) B dM_byWeekday_34 rfl rfl ?_
  refine xg_geti (pc := 35) B dM_byWeekday_35 flM_71 h (fun x5 ex5 h => ?_)
  refine xg_ci (pc := 38) (av := [.int x4, .int x5]) (st := []) (cy := prog_11_method_5_code) (nLy := 2) (rety := (some .int)) (hsy := []) B dM_byWeekday_38 (xj_go_s B dM_byWeekday_38 swM_74 rfl) swM_74.2.2.1 swM_74.2.2.2.1 (by decide) (by decide) (by decide) rfl (fun r9 h9 => cM_monthLength hl _ _ _ r9 h9) h (fun x6 A7 eA7 h => ?_)
  refine xg_aload_n (pc := 41) (i := 0) (r := v0) B dM_byWeekday_41 rfl rfl ?_
  refine xg_geti (pc := 42) B dM_byWeekday_42 flM_78 h (fun x8 ex8 h => ?_)
  refine xg_isub (pc := 45) B dM_byWeekday_45 ?_
  refine xg_bipush (pc := 46) (v := 7) B dM_byWeekday_46 (by decide) ?_
  refine xg_idiv (pc := 48) B dM_byWeekday_48 (by decide) ?_
  refine xg_iconst (pc := 49) (v := 1) B dM_byWeekday_49 (by decide) ?_
  refine xg_iadd (pc := 50) B dM_byWeekday_50 ?_
  refine xg_istore (pc := 51) (i := 5) (ls' := [(5, .int (((x6 - x8) / (7 : Int32)) + (1 : Int32))), (4, .int ((x3 + (6 : Int32)) / (7 : Int32))), (3, .int x1), (2, .int s0), (0, xj_rv v0), (1, .int v1)]) B dM_byWeekday_51 (by decide) ⟨fun _ => rfl, xj_nq (a := 3) (i := 5) (by decide), xj_nq (a := 2) (i := 5) (by decide), xj_nq (a := 0) (i := 5) (by decide), xj_nq (a := 1) (i := 5) (by decide), trivial⟩ rfl ?_
  refine xg_iconst (pc := 53) (v := 0) B dM_byWeekday_53 (by decide) ?_
  refine xg_istore (pc := 54) (i := 6) (ls' := [(6, .int (0 : Int32)), (5, .int (((x6 - x8) / (7 : Int32)) + (1 : Int32))), (4, .int ((x3 + (6 : Int32)) / (7 : Int32))), (3, .int x1), (2, .int s0), (0, xj_rv v0), (1, .int v1)]) B dM_byWeekday_54 (by decide) ⟨fun _ => rfl, xj_nq (a := 4) (i := 6) (by decide), xj_nq (a := 3) (i := 6) (by decide), xj_nq (a := 2) (i := 6) (by decide), xj_nq (a := 0) (i := 6) (by decide), xj_nq (a := 1) (i := 6) (by decide), trivial⟩ rfl ?_
  refine xg_sub (ls' := [(0, xj_rv v0), (2, .int s0), (3, .int x1), (4, .int ((x3 + (6 : Int32)) / (7 : Int32))), (5, .int (((x6 - x8) / (7 : Int32)) + (1 : Int32))), (6, .int (0 : Int32))]) [5, 4, 3, 2, 1, 0] rfl ?_
  exact wM_byWeekday_56 hl B xj_fu v0 s0 x1 ((x3 + (6 : Int32)) / (7 : Int32)) (((x6 - x8) / (7 : Int32)) + (1 : Int32)) (0 : Int32) A7 h
theorem wM_byWeekday {l : Launch} (hl : l.stackTraces = false) {z : xj_F} (B : xj_B l yM_byWeekday prog_11_method_32_code 7 (some .boolean) [] 2 z) (v0 : xj_Rf) (v1 : Int32) (A : xj_H) (h : fM_byWeekday v0 v1 A = some (xf_r z)) : xj_W l z 0 [(0, xj_rv v0), (1, .int v1)] [] A := by
  unfold fM_byWeekday at h
  refine xg_aload_n (pc := 0) (i := 0) (r := v0) B dM_byWeekday_0 rfl rfl ?_
  refine xg_geti (pc := 1) B dM_byWeekday_1 flM_168 h (fun x1 ex1 h => ?_)
  refine xg_if_ne (pc := 4) (tgt := 11) B dM_byWeekday_4 (by decide) h (fun c4 h => ?_) (fun c4 h => ?_)
  · refine xg_iconst (pc := 11) (v := 0) B dM_byWeekday_11 (by decide) ?_
    exact wM_byWeekday_12 hl B v0 v1 (0 : Int32) A h
  · refine xg_iconst (pc := 7) (v := 1) B dM_byWeekday_7 (by decide) ?_
    refine xg_goto (pc := 8) (tgt := 12) B dM_byWeekday_8 (by decide) ?_
    exact wM_byWeekday_12 hl B v0 v1 (1 : Int32) A h
theorem cM_byWeekday {l : Launch} (hl : l.stackTraces = false) (v0 : xj_Rf) (v1 : Int32) (A : xj_H) (r : xj_R) (h : fM_byWeekday v0 v1 A = some r) : xj_M l yM_byWeekday prog_11_method_32_code 7 (some .boolean) [] 2 [xj_rv v0, .int v1] A r := by
  refine xj_M.of hl (by decide +kernel) (by simp [lg_sl, xj_ic, xj_lc, xj_rv_cat]) (fun z B hA hr => ?_)
  subst hr
  have hw := wM_byWeekday hl B v0 v1 A h
  simpa [lv_args, xj_ic, xj_lc, xj_rv_cat] using hw
/-! RecurrenceBookModel.inPeriod(I)Z -/
def fM_inPeriod_111 (s0 : Int32) (A : xj_H) : Option xj_R :=
  xj_rz s0 A
def fM_inPeriod_97 (v0 : xj_Rf) (v2 : Int32) (A : xj_H) : Option xj_R :=
  (xj_gi A v0 7 16).bind fun x1 =>
  if x1 = 0 then none else
  if ¬ (v2 % x1) = 0 then
    fM_inPeriod_111 (0 : Int32) A
  else
    fM_inPeriod_111 (1 : Int32) A
def fM_inPeriod_79 (v0 : xj_Rf) (v2 : Int32) (A : xj_H) : Option xj_R :=
  (xj_gi A v0 7 15).bind fun x1 =>
  if ¬ x1 = (4 : Int32) then
    fM_inPeriod_97 v0 v2 A
  else
    (xj_gi A v0 7 26).bind fun x2 =>
    (xj_gi A v0 7 30).bind fun x3 =>
    fM_inPeriod_97 v0 (x2 - x3) A
def fM_inPeriod_48 (v0 : xj_Rf) (v2 : Int32) (A : xj_H) : Option xj_R :=
  (xj_gi A v0 7 15).bind fun x1 =>
  if ¬ x1 = (3 : Int32) then
    fM_inPeriod_79 v0 v2 A
  else
    (xj_gi A v0 7 26).bind fun x2 =>
    (xj_gi A v0 7 30).bind fun x3 =>
    (xj_gi A v0 7 27).bind fun x4 =>
    (xj_gi A v0 7 31).bind fun x5 =>
    fM_inPeriod_79 v0 ((((12 : Int32) * (x2 - x3)) + x4) - x5) A
def fM_inPeriod_17 (v0 : xj_Rf) (v1 : Int32) (v2 : Int32) (A : xj_H) : Option xj_R :=
  (xj_gi A v0 7 15).bind fun x1 =>
  if ¬ x1 = (2 : Int32) then
    fM_inPeriod_48 v0 v2 A
  else
    xj_bi (fM_weekday v1 A) fun x2 A3 =>
    (xj_gi A3 v0 7 29).bind fun x4 =>
    (xj_gi A3 v0 7 29).bind fun x5 =>
    xj_bi (fM_weekday x5 A3) fun x6 A7 =>
    fM_inPeriod_48 v0 ((((v1 - x2) - x4) + x6) / (7 : Int32)) A7
def fM_inPeriod (v0 : xj_Rf) (v1 : Int32) (A : xj_H) : Option xj_R :=
  (xj_gi A v0 7 15).bind fun x1 =>
  if ¬ x1 = (1 : Int32) then
    fM_inPeriod_17 v0 v1 (0 : Int32) A
  else
    (xj_gi A v0 7 29).bind fun x2 =>
    fM_inPeriod_17 v0 v1 (v1 - x2) A
theorem wM_inPeriod_111 {l : Launch} (hl : l.stackTraces = false) {z : xj_F} (B : xj_B l yM_inPeriod prog_11_method_33_code 3 (some .boolean) [] 2 z) (s0 : Int32) (A : xj_H) (h : fM_inPeriod_111 s0 A = some (xf_r z)) : xj_W l z 111 [] [.int s0] A := by
  unfold fM_inPeriod_111 at h
  exact xg_zret B dM_inPeriod_111 h
theorem wM_inPeriod_97 {l : Launch} (hl : l.stackTraces = false) {z : xj_F} (B : xj_B l yM_inPeriod prog_11_method_33_code 3 (some .boolean) [] 2 z) (v0 : xj_Rf) (v2 : Int32) (A : xj_H) (h : fM_inPeriod_97 v0 v2 A = some (xf_r z)) : xj_W l z 97 [(0, xj_rv v0), (2, .int v2)] [] A := by
  unfold fM_inPeriod_97 at h
  refine xg_iload_n (pc := 97) (i := 2) B dM_inPeriod_97 rfl rfl ?_
  refine xg_aload_n (pc := 98) (i := 0) (r := v0) B dM_inPeriod_98 rfl rfl ?_
  refine xg_geti (pc := 99) B dM_inPeriod_99 flM_192 h (fun x1 ex1 h => ?_)
  have hne102 : ¬ x1 = 0 := fun hc => by rw [if_pos hc] at h; cases h
  rw [if_neg hne102] at h
  refine xg_irem (pc := 102) B dM_inPeriod_102 hne102 ?_
  refine xg_if_ne (pc := 103) (tgt := 110) B dM_inPeriod_103 (by decide) h (fun c103 h => ?_) (fun c103 h => ?_)
  · refine xg_iconst (pc := 110) (v := 0) B dM_inPeriod_110 (by decide) ?_
    refine xg_sub (ls' := []) [] rfl ?_
    exact wM_inPeriod_111 hl B (0 : Int32) A h
  · refine xg_iconst (pc := 106) (v := 1) B dM_inPeriod_106 (by decide) ?_
    refine xg_goto (pc := 107) (tgt := 111) B dM_inPeriod_107 (by decide) ?_
    refine xg_sub (ls' := []) [] rfl ?_
    exact wM_inPeriod_111 hl B (1 : Int32) A h
theorem wM_inPeriod_79 {l : Launch} (hl : l.stackTraces = false) {z : xj_F} (B : xj_B l yM_inPeriod prog_11_method_33_code 3 (some .boolean) [] 2 z) (v0 : xj_Rf) (v2 : Int32) (A : xj_H) (h : fM_inPeriod_79 v0 v2 A = some (xf_r z)) : xj_W l z 79 [(0, xj_rv v0), (2, .int v2)] [] A := by
  unfold fM_inPeriod_79 at h
  refine xg_aload_n (pc := 79) (i := 0) (r := v0) B dM_inPeriod_79 rfl rfl ?_
  refine xg_geti (pc := 80) B dM_inPeriod_80 flM_138 h (fun x1 ex1 h => ?_)
  refine xg_iconst (pc := 83) (v := 4) B dM_inPeriod_83 (by decide) ?_
  refine xg_icmp_ne (pc := 84) (tgt := 97) B dM_inPeriod_84 (by decide) h (fun c84 h => ?_) (fun c84 h => ?_)
  · exact wM_inPeriod_97 hl B v0 v2 A h
  · refine xg_aload_n (pc := 87) (i := 0) (r := v0) B dM_inPeriod_87 rfl rfl ?_
    refine xg_geti (pc := 88) B dM_inPeriod_88 flM_64 h (fun x2 ex2 h => ?_)
    refine xg_aload_n (pc := 91) (i := 0) (r := v0) B dM_inPeriod_91 rfl rfl ?_
    refine xg_geti (pc := 92) B dM_inPeriod_92 flM_221 h (fun x3 ex3 h => ?_)
    refine xg_isub (pc := 95) B dM_inPeriod_95 ?_
    refine xg_istore_n (pc := 96) (i := 2) (ls' := [(2, .int (x2 - x3)), (0, xj_rv v0)]) B dM_inPeriod_96 rfl (by decide) ⟨xj_nq (a := 0) (i := 2) (by decide), xj_nq (a := 2) (i := 2) (by decide), trivial⟩ rfl ?_
    refine xg_sub (ls' := [(0, xj_rv v0), (2, .int (x2 - x3))]) [1, 0] rfl ?_
    exact wM_inPeriod_97 hl B v0 (x2 - x3) A h
theorem wM_inPeriod_48 {l : Launch} (hl : l.stackTraces = false) {z : xj_F} (B : xj_B l yM_inPeriod prog_11_method_33_code 3 (some .boolean) [] 2 z) (v0 : xj_Rf) (v2 : Int32) (A : xj_H) (h : fM_inPeriod_48 v0 v2 A = some (xf_r z)) : xj_W l z 48 [(0, xj_rv v0), (2, .int v2)] [] A := by
  unfold fM_inPeriod_48 at h
  refine xg_aload_n (pc := 48) (i := 0) (r := v0) B dM_inPeriod_48 rfl rfl ?_
  refine xg_geti (pc := 49) B dM_inPeriod_49 flM_138 h (fun x1 ex1 h => ?_)
  refine xg_iconst (pc := 52) (v := 3) B dM_inPeriod_52 (by decide) ?_
  refine xg_icmp_ne (pc := 53) (tgt := 79) B dM_inPeriod_53 (by decide) h (fun c53 h => ?_) (fun c53 h => ?_)
  · exact wM_inPeriod_79 hl B v0 v2 A h
  · refine xg_bipush (pc := 56) (v := 12) B dM_inPeriod_56 (by decide) ?_
    refine xg_aload_n (pc := 58) (i := 0) (r := v0) B dM_inPeriod_58 rfl rfl ?_
    refine xg_geti (pc := 59) B dM_inPeriod_59 flM_64 h (fun x2 ex2 h => ?_)
    refine xg_aload_n (pc := 62) (i := 0) (r := v0) B dM_inPeriod_62 rfl rfl ?_
    refine xg_geti (pc := 63) B dM_inPeriod_63 flM_221 h (fun x3 ex3 h => ?_)
    refine xg_isub (pc := 66) B dM_inPeriod_66 ?_
    refine xg_imul (pc := 67) B dM_inPeriod_67 ?_
    refine xg_aload_n (pc := 68) (i := 0) (r := v0) B dM_inPeriod_68 rfl rfl ?_
    refine xg_geti (pc := 69) B dM_inPeriod_69 flM_71 h (fun x4 ex4 h => ?_)
    refine xg_iadd (pc := 72) B dM_inPeriod_72 ?_
    refine xg_aload_n (pc := 73) (i := 0) (r := v0) B dM_inPeriod_73 rfl rfl ?_
    refine xg_geti (pc := 74) B dM_inPeriod_74 flM_224 h (fun x5 ex5 h => ?_)
    refine xg_isub (pc := 77) B dM_inPeriod_77 ?_
    refine xg_istore_n (pc := 78) (i := 2) (ls' := [(2, .int ((((12 : Int32) * (x2 - x3)) + x4) - x5)), (0, xj_rv v0)]) B dM_inPeriod_78 rfl (by decide) ⟨xj_nq (a := 0) (i := 2) (by decide), xj_nq (a := 2) (i := 2) (by decide), trivial⟩ rfl ?_
    refine xg_sub (ls' := [(0, xj_rv v0), (2, .int ((((12 : Int32) * (x2 - x3)) + x4) - x5))]) [1, 0] rfl ?_
    exact wM_inPeriod_79 hl B v0 ((((12 : Int32) * (x2 - x3)) + x4) - x5) A h
theorem wM_inPeriod_17 {l : Launch} (hl : l.stackTraces = false) {z : xj_F} (B : xj_B l yM_inPeriod prog_11_method_33_code 3 (some .boolean) [] 2 z) (v0 : xj_Rf) (v1 : Int32) (v2 : Int32) (A : xj_H) (h : fM_inPeriod_17 v0 v1 v2 A = some (xf_r z)) : xj_W l z 17 [(0, xj_rv v0), (1, .int v1), (2, .int v2)] [] A := by
  unfold fM_inPeriod_17 at h
  refine xg_aload_n (pc := 17) (i := 0) (r := v0) B dM_inPeriod_17 rfl rfl ?_
  refine xg_geti (pc := 18) B dM_inPeriod_18 flM_138 h (fun x1 ex1 h => ?_)
  refine xg_iconst (pc := 21) (v := 2) B dM_inPeriod_21 (by decide) ?_
  refine xg_icmp_ne (pc := 22) (tgt := 48) B dM_inPeriod_22 (by decide) h (fun c22 h => ?_) (fun c22 h => ?_)
  · refine xg_sub (ls' := [(0, xj_rv v0), (2, .int v2)]) [0, 2] rfl ?_
    exact wM_inPeriod_48 hl B v0 v2 A h
  · refine xg_iload_n (pc := 25) (i := 1) B dM_inPeriod_25 rfl rfl ?_
    refine xg_iload_n (pc := 26) (i := 1) B dM_inPeriod_26 rfl rfl ?_
    refine xg_ci (pc := 27) (av := [.int v1]) (st := [.int v1]) (cy := prog_11_method_9_code) (nLy := 1) (rety := (some .int)) (hsy := []) B dM_inPeriod_27 (xj_go_s B dM_inPeriod_27 swM_89 rfl) swM_89.2.2.1 swM_89.2.2.2.1 (by decide) (by decide) (by simp [xj_ic, xj_lc, xj_rv_cat]) rfl (fun r9 h9 => cM_weekday hl _ _ r9 h9) h (fun x2 A3 eA3 h => ?_)
    refine xg_isub (pc := 30) B dM_inPeriod_30 ?_
    refine xg_aload_n (pc := 31) (i := 0) (r := v0) B dM_inPeriod_31 rfl rfl ?_
    refine xg_geti (pc := 32) B dM_inPeriod_32 flM_218 h (fun x4 ex4 h => ?_)
    refine xg_isub (pc := 35) B dM_inPeriod_35 ?_
    refine xg_aload_n (pc := 36) (i := 0) (r := v0) B dM_inPeriod_36 rfl rfl ?_
    refine xg_geti (pc := 37) B dM_inPeriod_37 flM_218 h (fun x5 ex5 h => ?_)
    refine xg_ci (pc := 40) (av := [.int x5]) (st := [.int ((v1 - x2) - x4)]) (cy := prog_11_method_9_code) (nLy := 1) (rety := (some .int)) (hsy := []) B dM_inPeriod_40 (xj_go_s B dM_inPeriod_40 swM_89 rfl) swM_89.2.2.1 swM_89.2.2.2.1 (by decide) (by decide) (by simp [xj_ic, xj_lc, xj_rv_cat]) rfl (fun r9 h9 => cM_weekday hl _ _ r9 h9) h (fun x6 A7 eA7 h => ?_)
    refine xg_iadd (pc := 43) B dM_inPeriod_43 ?_
    refine xg_bipush (pc := 44) (v := 7) B dM_inPeriod_44 (by decide) ?_
    refine xg_idiv (pc := 46) B dM_inPeriod_46 (by decide) ?_
    refine xg_istore_n (pc := 47) (i := 2) (ls' := [(2, .int ((((v1 - x2) - x4) + x6) / (7 : Int32))), (0, xj_rv v0), (1, .int v1)]) B dM_inPeriod_47 rfl (by decide) ⟨xj_nq (a := 0) (i := 2) (by decide), fun _ => rfl, xj_nq (a := 2) (i := 2) (by decide), trivial⟩ rfl ?_
    refine xg_sub (ls' := [(0, xj_rv v0), (2, .int ((((v1 - x2) - x4) + x6) / (7 : Int32)))]) [1, 0] rfl ?_
    exact wM_inPeriod_48 hl B v0 ((((v1 - x2) - x4) + x6) / (7 : Int32)) A7 h
theorem wM_inPeriod {l : Launch} (hl : l.stackTraces = false) {z : xj_F} (B : xj_B l yM_inPeriod prog_11_method_33_code 3 (some .boolean) [] 2 z) (v0 : xj_Rf) (v1 : Int32) (A : xj_H) (h : fM_inPeriod v0 v1 A = some (xf_r z)) : xj_W l z 0 [(0, xj_rv v0), (1, .int v1)] [] A := by
  unfold fM_inPeriod at h
  refine xg_iconst (pc := 0) (v := 0) B dM_inPeriod_0 (by decide) ?_
  refine xg_istore_n (pc := 1) (i := 2) (ls' := [(2, .int (0 : Int32)), (0, xj_rv v0), (1, .int v1)]) B dM_inPeriod_1 rfl (by decide) ⟨xj_nq (a := 0) (i := 2) (by decide), fun _ => rfl, trivial⟩ rfl ?_
  refine xg_aload_n (pc := 2) (i := 0) (r := v0) B dM_inPeriod_2 rfl rfl ?_
  refine xg_geti (pc := 3) B dM_inPeriod_3 flM_138 h (fun x1 ex1 h => ?_)
  refine xg_iconst (pc := 6) (v := 1) B dM_inPeriod_6 (by decide) ?_
  refine xg_icmp_ne (pc := 7) (tgt := 17) B dM_inPeriod_7 (by decide) h (fun c7 h => ?_) (fun c7 h => ?_)
  · refine xg_sub (ls' := [(0, xj_rv v0), (1, .int v1), (2, .int (0 : Int32))]) [1, 2, 0] rfl ?_
    exact wM_inPeriod_17 hl B v0 v1 (0 : Int32) A h
  · refine xg_iload_n (pc := 10) (i := 1) B dM_inPeriod_10 rfl rfl ?_
    refine xg_aload_n (pc := 11) (i := 0) (r := v0) B dM_inPeriod_11 rfl rfl ?_
    refine xg_geti (pc := 12) B dM_inPeriod_12 flM_218 h (fun x2 ex2 h => ?_)
    refine xg_isub (pc := 15) B dM_inPeriod_15 ?_
    refine xg_istore_n (pc := 16) (i := 2) (ls' := [(2, .int (v1 - x2)), (0, xj_rv v0), (1, .int v1)]) B dM_inPeriod_16 rfl (by decide) ⟨xj_nq (a := 2) (i := 2) (by decide), xj_nq (a := 0) (i := 2) (by decide), fun _ => rfl, trivial⟩ rfl ?_
    refine xg_sub (ls' := [(0, xj_rv v0), (1, .int v1), (2, .int (v1 - x2))]) [1, 2, 0] rfl ?_
    exact wM_inPeriod_17 hl B v0 v1 (v1 - x2) A h
theorem cM_inPeriod {l : Launch} (hl : l.stackTraces = false) (v0 : xj_Rf) (v1 : Int32) (A : xj_H) (r : xj_R) (h : fM_inPeriod v0 v1 A = some r) : xj_M l yM_inPeriod prog_11_method_33_code 3 (some .boolean) [] 2 [xj_rv v0, .int v1] A r := by
  refine xj_M.of hl (by decide +kernel) (by simp [lg_sl, xj_ic, xj_lc, xj_rv_cat]) (fun z B hA hr => ?_)
  subst hr
  have hw := wM_inPeriod hl B v0 v1 A h
  simpa [lv_args, xj_ic, xj_lc, xj_rv_cat] using hw
/-! RecurrenceBookModel.means(I)Z -/
def fM_means_152 (s0 : Int32) (A : xj_H) : Option xj_R :=
  xj_rz s0 A
def fM_means_151 (A : xj_H) : Option xj_R :=
  fM_means_152 (0 : Int32) A
def fM_means_132 (v0 : xj_Rf) (v1 : Int32) (A : xj_H) : Option xj_R :=
  xj_bi (xj_rq A v0 7 (fM_byMonthDay v0 A)) fun x1 A2 =>
  if x1 = 0 then
    fM_means_151  A2
  else
    xj_bi (xj_rq A2 v0 7 (fM_byWeekday v0 v1 A2)) fun x3 A4 =>
    if x3 = 0 then
      fM_means_151  A4
    else
      fM_means_152 (1 : Int32) A4
def fM_means_131 (s0 : Int32) (A : xj_H) : Option xj_R :=
  xj_rz s0 A
def fM_means_92 (s0 : Int32) (A : xj_H) : Option xj_R :=
  xj_rz s0 A
def fM_means_43 (v0 : xj_Rf) (v1 : Int32) (s0 : Int32) (A : xj_H) : Option xj_R :=
  if ¬ s0 = 0 then
    (xj_gi A v0 7 15).bind fun x1 =>
    if ¬ x1 = (2 : Int32) then
      (xj_gi A v0 7 15).bind fun x2 =>
      if x2 = (1 : Int32) then
        fM_means_132 v0 v1 A
      else
        (xj_gi A v0 7 22).bind fun x3 =>
        if ¬ x3 = 0 then
          fM_means_132 v0 v1 A
        else
          (xj_gi A v0 7 25).bind fun x4 =>
          if ¬ x4 = 0 then
            fM_means_132 v0 v1 A
          else
            (xj_gi A v0 7 28).bind fun x5 =>
            (xj_gi A v0 7 32).bind fun x6 =>
            if ¬ x5 = x6 then
              fM_means_131 (0 : Int32) A
            else
              fM_means_131 (1 : Int32) A
    else
      (xj_gi A v0 7 25).bind fun x7 =>
      if ¬ x7 = 0 then
        xj_bi (xj_rq A v0 7 (fM_byWeekday v0 v1 A)) fun x8 A9 =>
        fM_means_92 x8 A9
      else
        xj_bi (fM_weekday v1 A) fun x10 A11 =>
        (xj_gi A11 v0 7 29).bind fun x12 =>
        xj_bi (fM_weekday x12 A11) fun x13 A14 =>
        if ¬ x10 = x13 then
          fM_means_92 (0 : Int32) A14
        else
          fM_means_92 (1 : Int32) A14
  else
    xj_rz (0 : Int32) A
def fM_means_38 (v0 : xj_Rf) (v1 : Int32) (A : xj_H) : Option xj_R :=
  fM_means_43 v0 v1 (1 : Int32) A
def fM_means (v0 : xj_Rf) (v1 : Int32) (A : xj_H) : Option xj_R :=
  (xj_gi A v0 7 19).bind fun x1 =>
  if x1 = 0 then
    (xj_gi A v0 7 15).bind fun x2 =>
    if ¬ x2 = (4 : Int32) then
      fM_means_38 v0 v1 A
    else
      (xj_gi A v0 7 27).bind fun x3 =>
      (xj_gi A v0 7 31).bind fun x4 =>
      if ¬ x3 = x4 then
        fM_means_43 v0 v1 (0 : Int32) A
      else
        fM_means_38 v0 v1 A
  else
    (xj_gr A v0 7 20).bind fun x5 =>
    (xj_gi A v0 7 27).bind fun x6 =>
    (xj_ai A x5 2 x6).bind fun x7 =>
    fM_means_43 v0 v1 x7 A
theorem wM_means_152 {l : Launch} (hl : l.stackTraces = false) {z : xj_F} (B : xj_B l yM_means prog_11_method_34_code 3 (some .boolean) [] 3 z) (s0 : Int32) (A : xj_H) (h : fM_means_152 s0 A = some (xf_r z)) : xj_W l z 152 [] [.int s0] A := by
  unfold fM_means_152 at h
  exact xg_zret B dM_means_152 h
theorem wM_means_151 {l : Launch} (hl : l.stackTraces = false) {z : xj_F} (B : xj_B l yM_means prog_11_method_34_code 3 (some .boolean) [] 3 z) (A : xj_H) (h : fM_means_151  A = some (xf_r z)) : xj_W l z 151 [] [] A := by
  unfold fM_means_151 at h
  refine xg_iconst (pc := 151) (v := 0) B dM_means_151 (by decide) ?_
  exact wM_means_152 hl B (0 : Int32) A h
theorem wM_means_132 {l : Launch} (hl : l.stackTraces = false) {z : xj_F} (B : xj_B l yM_means prog_11_method_34_code 3 (some .boolean) [] 3 z) (v0 : xj_Rf) (v1 : Int32) (A : xj_H) (h : fM_means_132 v0 v1 A = some (xf_r z)) : xj_W l z 132 [(0, xj_rv v0), (1, .int v1)] [] A := by
  unfold fM_means_132 at h
  refine xg_aload_n (pc := 132) (i := 0) (r := v0) B dM_means_132 rfl rfl ?_
  obtain ⟨hq133, h⟩ := xj_rq_i h
  refine xg_ci (pc := 133) (av := [xj_rv v0]) (st := []) (cy := prog_11_method_31_code) (nLy := 4) (rety := (some .boolean)) (hsy := []) B dM_means_133 (xj_go_v B dM_means_133 vwM_233 rfl hq133) (xj_vw_c vwM_233) (xj_vw_i vwM_233) (by decide) (by decide) (by decide) rfl (fun r9 h9 => cM_byMonthDay hl _ _ r9 h9) h (fun x1 A2 eA2 h => ?_)
  refine xg_if_eq (pc := 136) (tgt := 151) B dM_means_136 (by decide) h (fun c136 h => ?_) (fun c136 h => ?_)
  · refine xg_sub (ls' := []) [] rfl ?_
    exact wM_means_151 hl B  A2 h
  · refine xg_aload_n (pc := 139) (i := 0) (r := v0) B dM_means_139 rfl rfl ?_
    refine xg_iload_n (pc := 140) (i := 1) B dM_means_140 rfl rfl ?_
    obtain ⟨hq141, h⟩ := xj_rq_i h
    refine xg_ci (pc := 141) (av := [xj_rv v0, .int v1]) (st := []) (cy := prog_11_method_32_code) (nLy := 7) (rety := (some .boolean)) (hsy := []) B dM_means_141 (xj_go_v B dM_means_141 vwM_227 rfl hq141) (xj_vw_c vwM_227) (xj_vw_i vwM_227) (by decide) (by decide) (by decide) rfl (fun r9 h9 => cM_byWeekday hl _ _ _ r9 h9) h (fun x3 A4 eA4 h => ?_)
    refine xg_if_eq (pc := 144) (tgt := 151) B dM_means_144 (by decide) h (fun c144 h => ?_) (fun c144 h => ?_)
    · refine xg_sub (ls' := []) [] rfl ?_
      exact wM_means_151 hl B  A4 h
    · refine xg_iconst (pc := 147) (v := 1) B dM_means_147 (by decide) ?_
      refine xg_goto (pc := 148) (tgt := 152) B dM_means_148 (by decide) ?_
      refine xg_sub (ls' := []) [] rfl ?_
      exact wM_means_152 hl B (1 : Int32) A4 h
theorem wM_means_131 {l : Launch} (hl : l.stackTraces = false) {z : xj_F} (B : xj_B l yM_means prog_11_method_34_code 3 (some .boolean) [] 3 z) (s0 : Int32) (A : xj_H) (h : fM_means_131 s0 A = some (xf_r z)) : xj_W l z 131 [] [.int s0] A := by
  unfold fM_means_131 at h
  exact xg_zret B dM_means_131 h
theorem wM_means_92 {l : Launch} (hl : l.stackTraces = false) {z : xj_F} (B : xj_B l yM_means prog_11_method_34_code 3 (some .boolean) [] 3 z) (s0 : Int32) (A : xj_H) (h : fM_means_92 s0 A = some (xf_r z)) : xj_W l z 92 [] [.int s0] A := by
  unfold fM_means_92 at h
  exact xg_zret B dM_means_92 h
theorem wM_means_43 {l : Launch} (hl : l.stackTraces = false) {z : xj_F} (B : xj_B l yM_means prog_11_method_34_code 3 (some .boolean) [] 3 z) (v0 : xj_Rf) (v1 : Int32) (s0 : Int32) (A : xj_H) (h : fM_means_43 v0 v1 s0 A = some (xf_r z)) : xj_W l z 43 [(0, xj_rv v0), (1, .int v1)] [.int s0] A := by
  unfold fM_means_43 at h
  refine xg_istore_n (pc := 43) (i := 2) (ls' := [(2, .int s0), (0, xj_rv v0), (1, .int v1)]) B dM_means_43 rfl (by decide) ⟨xj_nq (a := 0) (i := 2) (by decide), fun _ => rfl, trivial⟩ rfl ?_
  refine xg_iload_n (pc := 44) (i := 2) B dM_means_44 rfl rfl ?_
  refine xg_if_ne (pc := 45) (tgt := 50) B dM_means_45 (by decide) h (fun c45 h => ?_) (fun c45 h => ?_)
  · refine xg_aload_n (pc := 50) (i := 0) (r := v0) B dM_means_50 rfl rfl ?_
    refine xg_geti (pc := 51) B dM_means_51 flM_138 h (fun x1 ex1 h => ?_)
    refine xg_iconst (pc := 54) (v := 2) B dM_means_54 (by decide) ?_
    refine xg_icmp_ne (pc := 55) (tgt := 93) B dM_means_55 (by decide) h (fun c55 h => ?_) (fun c55 h => ?_)
    · refine xg_aload_n (pc := 93) (i := 0) (r := v0) B dM_means_93 rfl rfl ?_
      refine xg_geti (pc := 94) B dM_means_94 flM_138 h (fun x2 ex2 h => ?_)
      refine xg_iconst (pc := 97) (v := 1) B dM_means_97 (by decide) ?_
      refine xg_icmp_eq (pc := 98) (tgt := 132) B dM_means_98 (by decide) h (fun c98 h => ?_) (fun c98 h => ?_)
      · refine xg_sub (ls' := [(0, xj_rv v0), (1, .int v1)]) [1, 2] rfl ?_
        exact wM_means_132 hl B v0 v1 A h
      · refine xg_aload_n (pc := 101) (i := 0) (r := v0) B dM_means_101 rfl rfl ?_
        refine xg_geti (pc := 102) B dM_means_102 flM_171 h (fun x3 ex3 h => ?_)
        refine xg_if_ne (pc := 105) (tgt := 132) B dM_means_105 (by decide) h (fun c105 h => ?_) (fun c105 h => ?_)
        · refine xg_sub (ls' := [(0, xj_rv v0), (1, .int v1)]) [1, 2] rfl ?_
          exact wM_means_132 hl B v0 v1 A h
        · refine xg_aload_n (pc := 108) (i := 0) (r := v0) B dM_means_108 rfl rfl ?_
          refine xg_geti (pc := 109) B dM_means_109 flM_168 h (fun x4 ex4 h => ?_)
          refine xg_if_ne (pc := 112) (tgt := 132) B dM_means_112 (by decide) h (fun c112 h => ?_) (fun c112 h => ?_)
          · refine xg_sub (ls' := [(0, xj_rv v0), (1, .int v1)]) [1, 2] rfl ?_
            exact wM_means_132 hl B v0 v1 A h
          · refine xg_aload_n (pc := 115) (i := 0) (r := v0) B dM_means_115 rfl rfl ?_
            refine xg_geti (pc := 116) B dM_means_116 flM_78 h (fun x5 ex5 h => ?_)
            refine xg_aload_n (pc := 119) (i := 0) (r := v0) B dM_means_119 rfl rfl ?_
            refine xg_geti (pc := 120) B dM_means_120 flM_230 h (fun x6 ex6 h => ?_)
            refine xg_icmp_ne (pc := 123) (tgt := 130) B dM_means_123 (by decide) h (fun c123 h => ?_) (fun c123 h => ?_)
            · refine xg_iconst (pc := 130) (v := 0) B dM_means_130 (by decide) ?_
              refine xg_sub (ls' := []) [] rfl ?_
              exact wM_means_131 hl B (0 : Int32) A h
            · refine xg_iconst (pc := 126) (v := 1) B dM_means_126 (by decide) ?_
              refine xg_goto (pc := 127) (tgt := 131) B dM_means_127 (by decide) ?_
              refine xg_sub (ls' := []) [] rfl ?_
              exact wM_means_131 hl B (1 : Int32) A h
    · refine xg_aload_n (pc := 58) (i := 0) (r := v0) B dM_means_58 rfl rfl ?_
      refine xg_geti (pc := 59) B dM_means_59 flM_168 h (fun x7 ex7 h => ?_)
      refine xg_if_ne (pc := 62) (tgt := 87) B dM_means_62 (by decide) h (fun c62 h => ?_) (fun c62 h => ?_)
      · refine xg_aload_n (pc := 87) (i := 0) (r := v0) B dM_means_87 rfl rfl ?_
        refine xg_iload_n (pc := 88) (i := 1) B dM_means_88 rfl rfl ?_
        obtain ⟨hq89, h⟩ := xj_rq_i h
        refine xg_ci (pc := 89) (av := [xj_rv v0, .int v1]) (st := []) (cy := prog_11_method_32_code) (nLy := 7) (rety := (some .boolean)) (hsy := []) B dM_means_89 (xj_go_v B dM_means_89 vwM_227 rfl hq89) (xj_vw_c vwM_227) (xj_vw_i vwM_227) (by decide) (by decide) (by decide) rfl (fun r9 h9 => cM_byWeekday hl _ _ _ r9 h9) h (fun x8 A9 eA9 h => ?_)
        refine xg_sub (ls' := []) [] rfl ?_
        exact wM_means_92 hl B x8 A9 h
      · refine xg_iload_n (pc := 65) (i := 1) B dM_means_65 rfl rfl ?_
        refine xg_ci (pc := 66) (av := [.int v1]) (st := []) (cy := prog_11_method_9_code) (nLy := 1) (rety := (some .int)) (hsy := []) B dM_means_66 (xj_go_s B dM_means_66 swM_89 rfl) swM_89.2.2.1 swM_89.2.2.2.1 (by decide) (by decide) (by decide) rfl (fun r9 h9 => cM_weekday hl _ _ r9 h9) h (fun x10 A11 eA11 h => ?_)
        refine xg_aload_n (pc := 69) (i := 0) (r := v0) B dM_means_69 rfl rfl ?_
        refine xg_geti (pc := 70) B dM_means_70 flM_218 h (fun x12 ex12 h => ?_)
        refine xg_ci (pc := 73) (av := [.int x12]) (st := [.int x10]) (cy := prog_11_method_9_code) (nLy := 1) (rety := (some .int)) (hsy := []) B dM_means_73 (xj_go_s B dM_means_73 swM_89 rfl) swM_89.2.2.1 swM_89.2.2.2.1 (by decide) (by decide) (by simp [xj_ic, xj_lc, xj_rv_cat]) rfl (fun r9 h9 => cM_weekday hl _ _ r9 h9) h (fun x13 A14 eA14 h => ?_)
        refine xg_icmp_ne (pc := 76) (tgt := 83) B dM_means_76 (by decide) h (fun c76 h => ?_) (fun c76 h => ?_)
        · refine xg_iconst (pc := 83) (v := 0) B dM_means_83 (by decide) ?_
          refine xg_goto (pc := 84) (tgt := 92) B dM_means_84 (by decide) ?_
          refine xg_sub (ls' := []) [] rfl ?_
          exact wM_means_92 hl B (0 : Int32) A14 h
        · refine xg_iconst (pc := 79) (v := 1) B dM_means_79 (by decide) ?_
          refine xg_goto (pc := 80) (tgt := 92) B dM_means_80 (by decide) ?_
          refine xg_sub (ls' := []) [] rfl ?_
          exact wM_means_92 hl B (1 : Int32) A14 h
  · refine xg_iconst (pc := 48) (v := 0) B dM_means_48 (by decide) ?_
    exact xg_zret B dM_means_49 h
theorem wM_means_38 {l : Launch} (hl : l.stackTraces = false) {z : xj_F} (B : xj_B l yM_means prog_11_method_34_code 3 (some .boolean) [] 3 z) (v0 : xj_Rf) (v1 : Int32) (A : xj_H) (h : fM_means_38 v0 v1 A = some (xf_r z)) : xj_W l z 38 [(0, xj_rv v0), (1, .int v1)] [] A := by
  unfold fM_means_38 at h
  refine xg_iconst (pc := 38) (v := 1) B dM_means_38 (by decide) ?_
  refine xg_goto (pc := 39) (tgt := 43) B dM_means_39 (by decide) ?_
  exact wM_means_43 hl B v0 v1 (1 : Int32) A h
theorem wM_means {l : Launch} (hl : l.stackTraces = false) {z : xj_F} (B : xj_B l yM_means prog_11_method_34_code 3 (some .boolean) [] 3 z) (v0 : xj_Rf) (v1 : Int32) (A : xj_H) (h : fM_means v0 v1 A = some (xf_r z)) : xj_W l z 0 [(0, xj_rv v0), (1, .int v1)] [] A := by
  unfold fM_means at h
  refine xg_aload_n (pc := 0) (i := 0) (r := v0) B dM_means_0 rfl rfl ?_
  refine xg_geti (pc := 1) B dM_means_1 flM_174 h (fun x1 ex1 h => ?_)
  refine xg_if_eq (pc := 4) (tgt := 19) B dM_means_4 (by decide) h (fun c4 h => ?_) (fun c4 h => ?_)
  · refine xg_aload_n (pc := 19) (i := 0) (r := v0) B dM_means_19 rfl rfl ?_
    refine xg_geti (pc := 20) B dM_means_20 flM_138 h (fun x2 ex2 h => ?_)
    refine xg_iconst (pc := 23) (v := 4) B dM_means_23 (by decide) ?_
    refine xg_icmp_ne (pc := 24) (tgt := 38) B dM_means_24 (by decide) h (fun c24 h => ?_) (fun c24 h => ?_)
    · exact wM_means_38 hl B v0 v1 A h
    · refine xg_aload_n (pc := 27) (i := 0) (r := v0) B dM_means_27 rfl rfl ?_
      refine xg_geti (pc := 28) B dM_means_28 flM_71 h (fun x3 ex3 h => ?_)
      refine xg_aload_n (pc := 31) (i := 0) (r := v0) B dM_means_31 rfl rfl ?_
      refine xg_geti (pc := 32) B dM_means_32 flM_224 h (fun x4 ex4 h => ?_)
      refine xg_icmp_ne (pc := 35) (tgt := 42) B dM_means_35 (by decide) h (fun c35 h => ?_) (fun c35 h => ?_)
      · refine xg_iconst (pc := 42) (v := 0) B dM_means_42 (by decide) ?_
        exact wM_means_43 hl B v0 v1 (0 : Int32) A h
      · exact wM_means_38 hl B v0 v1 A h
  · refine xg_aload_n (pc := 7) (i := 0) (r := v0) B dM_means_7 rfl rfl ?_
    refine xg_getr (pc := 8) B dM_means_8 flM_37 h (fun x5 ex5 h => ?_)
    refine xg_aload_n (pc := 11) (i := 0) (r := v0) B dM_means_11 rfl rfl ?_
    refine xg_geti (pc := 12) B dM_means_12 flM_71 h (fun x6 ex6 h => ?_)
    refine xg_zaload (pc := 15) B dM_means_15 h (fun x7 ex7 h => ?_)
    refine xg_goto (pc := 16) (tgt := 43) B dM_means_16 (by decide) ?_
    exact wM_means_43 hl B v0 v1 x7 A h
theorem cM_means {l : Launch} (hl : l.stackTraces = false) (v0 : xj_Rf) (v1 : Int32) (A : xj_H) (r : xj_R) (h : fM_means v0 v1 A = some r) : xj_M l yM_means prog_11_method_34_code 3 (some .boolean) [] 3 [xj_rv v0, .int v1] A r := by
  refine xj_M.of hl (by decide +kernel) (by simp [lg_sl, xj_ic, xj_lc, xj_rv_cat]) (fun z B hA hr => ?_)
  subst hr
  have hw := wM_means hl B v0 v1 A h
  simpa [lv_args, xj_ic, xj_lc, xj_rv_cat] using hw
/-! RecurrenceBookModel.behindPeriod(I)I -/
def fM_behindPeriod_85 (s0 : Int32) (A : xj_H) : Option xj_R :=
  some (.inl (some (.int s0)), A)
def fM_behindPeriod (v0 : xj_Rf) (v1 : Int32) (A : xj_H) : Option xj_R :=
  (xj_gi A v0 7 15).bind fun x1 =>
  if ¬ x1 = (1 : Int32) then
    (xj_gi A v0 7 15).bind fun x2 =>
    if ¬ x2 = (2 : Int32) then
      (xj_gi A v0 7 15).bind fun x3 =>
      if ¬ x3 = (3 : Int32) then
        (xj_gi A v0 7 26).bind fun x4 =>
        xj_bi (fM_yearBegin (x4 + (1 : Int32)) A) fun x5 A6 =>
        fM_behindPeriod_85 x5 A6
      else
        (xj_gi A v0 7 28).bind fun x7 =>
        (xj_gi A v0 7 26).bind fun x8 =>
        (xj_gi A v0 7 27).bind fun x9 =>
        xj_bi (fM_monthLength x8 x9 A) fun x10 A11 =>
        fM_behindPeriod_85 (((v1 - x7) + (1 : Int32)) + x10) A11
    else
      xj_bi (fM_weekday v1 A) fun x12 A13 =>
      some (.inl (some (.int ((v1 + (7 : Int32)) - x12))), A13)
  else
    (xj_gi A v0 7 16).bind fun x14 =>
    (xj_gi A v0 7 29).bind fun x15 =>
    (xj_gi A v0 7 16).bind fun x16 =>
    if x16 = 0 then none else
    some (.inl (some (.int ((v1 + x14) - ((v1 - x15) % x16)))), A)
theorem wM_behindPeriod_85 {l : Launch} (hl : l.stackTraces = false) {z : xj_F} (B : xj_B l yM_behindPeriod prog_11_method_35_code 2 (some .int) [] 2 z) (s0 : Int32) (A : xj_H) (h : fM_behindPeriod_85 s0 A = some (xf_r z)) : xj_W l z 85 [] [.int s0] A := by
  unfold fM_behindPeriod_85 at h
  exact xg_iret B dM_behindPeriod_85 h
theorem wM_behindPeriod {l : Launch} (hl : l.stackTraces = false) {z : xj_F} (B : xj_B l yM_behindPeriod prog_11_method_35_code 2 (some .int) [] 2 z) (v0 : xj_Rf) (v1 : Int32) (A : xj_H) (h : fM_behindPeriod v0 v1 A = some (xf_r z)) : xj_W l z 0 [(0, xj_rv v0), (1, .int v1)] [] A := by
  unfold fM_behindPeriod at h
  refine xg_aload_n (pc := 0) (i := 0) (r := v0) B dM_behindPeriod_0 rfl rfl ?_
  refine xg_geti (pc := 1) B dM_behindPeriod_1 flM_138 h (fun x1 ex1 h => ?_)
  refine xg_iconst (pc := 4) (v := 1) B dM_behindPeriod_4 (by decide) ?_
  refine xg_icmp_ne (pc := 5) (tgt := 27) B dM_behindPeriod_5 (by decide) h (fun c5 h => ?_) (fun c5 h => ?_)
  · refine xg_aload_n (pc := 27) (i := 0) (r := v0) B dM_behindPeriod_27 rfl rfl ?_
    refine xg_geti (pc := 28) B dM_behindPeriod_28 flM_138 h (fun x2 ex2 h => ?_)
    refine xg_iconst (pc := 31) (v := 2) B dM_behindPeriod_31 (by decide) ?_
    refine xg_icmp_ne (pc := 32) (tgt := 45) B dM_behindPeriod_32 (by decide) h (fun c32 h => ?_) (fun c32 h => ?_)
    · refine xg_aload_n (pc := 45) (i := 0) (r := v0) B dM_behindPeriod_45 rfl rfl ?_
      refine xg_geti (pc := 46) B dM_behindPeriod_46 flM_138 h (fun x3 ex3 h => ?_)
      refine xg_iconst (pc := 49) (v := 3) B dM_behindPeriod_49 (by decide) ?_
      refine xg_icmp_ne (pc := 50) (tgt := 76) B dM_behindPeriod_50 (by decide) h (fun c50 h => ?_) (fun c50 h => ?_)
      · refine xg_aload_n (pc := 76) (i := 0) (r := v0) B dM_behindPeriod_76 rfl rfl ?_
        refine xg_geti (pc := 77) B dM_behindPeriod_77 flM_64 h (fun x4 ex4 h => ?_)
        refine xg_iconst (pc := 80) (v := 1) B dM_behindPeriod_80 (by decide) ?_
        refine xg_iadd (pc := 81) B dM_behindPeriod_81 ?_
        refine xg_ci (pc := 82) (av := [.int (x4 + (1 : Int32))]) (st := []) (cy := prog_11_method_4_code) (nLy := 1) (rety := (some .int)) (hsy := []) B dM_behindPeriod_82 (xj_go_s B dM_behindPeriod_82 swM_67 rfl) swM_67.2.2.1 swM_67.2.2.2.1 (by decide) (by decide) (by decide) rfl (fun r9 h9 => cM_yearBegin hl _ _ r9 h9) h (fun x5 A6 eA6 h => ?_)
        refine xg_sub (ls' := []) [] rfl ?_
        exact wM_behindPeriod_85 hl B x5 A6 h
      · refine xg_iload_n (pc := 53) (i := 1) B dM_behindPeriod_53 rfl rfl ?_
        refine xg_aload_n (pc := 54) (i := 0) (r := v0) B dM_behindPeriod_54 rfl rfl ?_
        refine xg_geti (pc := 55) B dM_behindPeriod_55 flM_78 h (fun x7 ex7 h => ?_)
        refine xg_isub (pc := 58) B dM_behindPeriod_58 ?_
        refine xg_iconst (pc := 59) (v := 1) B dM_behindPeriod_59 (by decide) ?_
        refine xg_iadd (pc := 60) B dM_behindPeriod_60 ?_
        refine xg_aload_n (pc := 61) (i := 0) (r := v0) B dM_behindPeriod_61 rfl rfl ?_
        refine xg_geti (pc := 62) B dM_behindPeriod_62 flM_64 h (fun x8 ex8 h => ?_)
        refine xg_aload_n (pc := 65) (i := 0) (r := v0) B dM_behindPeriod_65 rfl rfl ?_
        refine xg_geti (pc := 66) B dM_behindPeriod_66 flM_71 h (fun x9 ex9 h => ?_)
        refine xg_ci (pc := 69) (av := [.int x8, .int x9]) (st := [.int ((v1 - x7) + (1 : Int32))]) (cy := prog_11_method_5_code) (nLy := 2) (rety := (some .int)) (hsy := []) B dM_behindPeriod_69 (xj_go_s B dM_behindPeriod_69 swM_74 rfl) swM_74.2.2.1 swM_74.2.2.2.1 (by decide) (by decide) (by simp [xj_ic, xj_lc, xj_rv_cat]) rfl (fun r9 h9 => cM_monthLength hl _ _ _ r9 h9) h (fun x10 A11 eA11 h => ?_)
        refine xg_iadd (pc := 72) B dM_behindPeriod_72 ?_
        refine xg_goto (pc := 73) (tgt := 85) B dM_behindPeriod_73 (by decide) ?_
        refine xg_sub (ls' := []) [] rfl ?_
        exact wM_behindPeriod_85 hl B (((v1 - x7) + (1 : Int32)) + x10) A11 h
    · refine xg_iload_n (pc := 35) (i := 1) B dM_behindPeriod_35 rfl rfl ?_
      refine xg_bipush (pc := 36) (v := 7) B dM_behindPeriod_36 (by decide) ?_
      refine xg_iadd (pc := 38) B dM_behindPeriod_38 ?_
      refine xg_iload_n (pc := 39) (i := 1) B dM_behindPeriod_39 rfl rfl ?_
      refine xg_ci (pc := 40) (av := [.int v1]) (st := [.int (v1 + (7 : Int32))]) (cy := prog_11_method_9_code) (nLy := 1) (rety := (some .int)) (hsy := []) B dM_behindPeriod_40 (xj_go_s B dM_behindPeriod_40 swM_89 rfl) swM_89.2.2.1 swM_89.2.2.2.1 (by decide) (by decide) (by simp [xj_ic, xj_lc, xj_rv_cat]) rfl (fun r9 h9 => cM_weekday hl _ _ r9 h9) h (fun x12 A13 eA13 h => ?_)
      refine xg_isub (pc := 43) B dM_behindPeriod_43 ?_
      exact xg_iret B dM_behindPeriod_44 h
  · refine xg_iload_n (pc := 8) (i := 1) B dM_behindPeriod_8 rfl rfl ?_
    refine xg_aload_n (pc := 9) (i := 0) (r := v0) B dM_behindPeriod_9 rfl rfl ?_
    refine xg_geti (pc := 10) B dM_behindPeriod_10 flM_192 h (fun x14 ex14 h => ?_)
    refine xg_iadd (pc := 13) B dM_behindPeriod_13 ?_
    refine xg_iload_n (pc := 14) (i := 1) B dM_behindPeriod_14 rfl rfl ?_
    refine xg_aload_n (pc := 15) (i := 0) (r := v0) B dM_behindPeriod_15 rfl rfl ?_
    refine xg_geti (pc := 16) B dM_behindPeriod_16 flM_218 h (fun x15 ex15 h => ?_)
    refine xg_isub (pc := 19) B dM_behindPeriod_19 ?_
    refine xg_aload_n (pc := 20) (i := 0) (r := v0) B dM_behindPeriod_20 rfl rfl ?_
    refine xg_geti (pc := 21) B dM_behindPeriod_21 flM_192 h (fun x16 ex16 h => ?_)
    have hne24 : ¬ x16 = 0 := fun hc => by rw [if_pos hc] at h; cases h
    rw [if_neg hne24] at h
    refine xg_irem (pc := 24) B dM_behindPeriod_24 hne24 ?_
    refine xg_isub (pc := 25) B dM_behindPeriod_25 ?_
    exact xg_iret B dM_behindPeriod_26 h
theorem cM_behindPeriod {l : Launch} (hl : l.stackTraces = false) (v0 : xj_Rf) (v1 : Int32) (A : xj_H) (r : xj_R) (h : fM_behindPeriod v0 v1 A = some r) : xj_M l yM_behindPeriod prog_11_method_35_code 2 (some .int) [] 2 [xj_rv v0, .int v1] A r := by
  refine xj_M.of hl (by decide +kernel) (by simp [lg_sl, xj_ic, xj_lc, xj_rv_cat]) (fun z B hA hr => ?_)
  subst hr
  have hw := wM_behindPeriod hl B v0 v1 A h
  simpa [lv_args, xj_ic, xj_lc, xj_rv_cat] using hw

/-! RecurrenceBookModel.join(II)V -/
def fM_join_211 (v0 : xj_Rf) (v3 : Int32) (v5 : Int32) (v6 : Int32) (v7 : Int32) (A : xj_H) : Option xj_R :=
  (xj_gr A v0 7 34).bind fun x1 =>
  (xj_as A x1 0 v3 v5).bind fun A2 =>
  (xj_gr A2 v0 7 35).bind fun x3 =>
  (xj_as A2 x3 0 v3 v6).bind fun A4 =>
  (xj_gi A4 v0 7 33).bind fun x5 =>
  (xj_pv A4 v0 7 33 (.int (x5 + v7))).bind fun A6 =>
  some (.inl none, A6)
def fM_join_157 : Nat → xj_Rf → Int32 → Int32 → Int32 → Int32 → Int32 → xj_H → Option xj_R
  | 0, _, _, _, _, _, _, _ => none
  | n + 1, v0, v3, v5, v6, v7, v8, A =>
    (xj_gi A v0 7 33).bind fun x1 =>
    if x1 ≤ v8 then
      fM_join_211 v0 v3 v5 v6 v7 A
    else
      if 0 ≤ v7 then
        fM_join_211 v0 v3 v5 v6 v7 A
      else
        (xj_gr A v0 7 34).bind fun x2 =>
        (xj_gr A v0 7 34).bind fun x3 =>
        (xj_ai A x3 0 v8).bind fun x4 =>
        (xj_as A x2 0 (v8 + v7) x4).bind fun A5 =>
        (xj_gr A5 v0 7 35).bind fun x6 =>
        (xj_gr A5 v0 7 35).bind fun x7 =>
        (xj_ai A5 x7 0 v8).bind fun x8 =>
        (xj_as A5 x6 0 (v8 + v7) x8).bind fun A9 =>
        (fM_join_157 n) v0 v3 v5 v6 v7 (v8 + 1) A9
def fM_join_153 (v0 : xj_Rf) (v3 : Int32) (v4 : Int32) (v5 : Int32) (v6 : Int32) (v7 : Int32) (A : xj_H) : Option xj_R :=
  fM_join_157 xj_fu v0 v3 v5 v6 v7 v4 A
def fM_join_109 : Nat → xj_Rf → Int32 → Int32 → Int32 → Int32 → Int32 → Int32 → xj_H → Option xj_R
  | 0, _, _, _, _, _, _, _, _ => none
  | n + 1, v0, v3, v4, v5, v6, v7, v8, A =>
    if v8 ≤ v3 then
      fM_join_153 v0 v3 v4 v5 v6 v7 A
    else
      (xj_gr A v0 7 34).bind fun x1 =>
      (xj_gr A v0 7 34).bind fun x2 =>
      (xj_ai A x2 0 (v8 - (1 : Int32))).bind fun x3 =>
      (xj_as A x1 0 v8 x3).bind fun A4 =>
      (xj_gr A4 v0 7 35).bind fun x5 =>
      (xj_gr A4 v0 7 35).bind fun x6 =>
      (xj_ai A4 x6 0 (v8 - (1 : Int32))).bind fun x7 =>
      (xj_as A4 x5 0 v8 x7).bind fun A8 =>
      (fM_join_109 n) v0 v3 v4 v5 v6 v7 (v8 - 1) A8
def fM_join_89 (v0 : xj_Rf) (v3 : Int32) (v4 : Int32) (v5 : Int32) (v6 : Int32) (A : xj_H) : Option xj_R :=
  if ¬ ((v3 + (1 : Int32)) - v4) = (1 : Int32) then
    fM_join_153 v0 v3 v4 v5 v6 ((v3 + (1 : Int32)) - v4) A
  else
    (xj_gi A v0 7 33).bind fun x1 =>
    fM_join_109 xj_fu v0 v3 v4 v5 v6 ((v3 + (1 : Int32)) - v4) x1 A
def fM_join_35 : Nat → xj_Rf → Int32 → Int32 → Int32 → Int32 → Int32 → xj_H → Option xj_R
  | 0, _, _, _, _, _, _, _ => none
  | n + 1, v0, v2, v3, v4, v5, v6, A =>
    (xj_gi A v0 7 33).bind fun x1 =>
    if x1 ≤ v4 then
      fM_join_89 v0 v3 v4 v5 v6 A
    else
      (xj_gr A v0 7 34).bind fun x2 =>
      (xj_ai A x2 0 v4).bind fun x3 =>
      if v2 < x3 then
        fM_join_89 v0 v3 v4 v5 v6 A
      else
        (xj_gr A v0 7 34).bind fun x4 =>
        (xj_ai A x4 0 v4).bind fun x5 =>
        xj_bi (fM_least v5 x5 A) fun x6 A7 =>
        (xj_gr A7 v0 7 35).bind fun x8 =>
        (xj_ai A7 x8 0 v4).bind fun x9 =>
        xj_bi (fM_greatest v6 x9 A7) fun x10 A11 =>
        (fM_join_35 n) v0 v2 v3 (v4 + 1) x6 x10 A11
def fM_join_26 (v0 : xj_Rf) (v1 : Int32) (v2 : Int32) (v3 : Int32) (A : xj_H) : Option xj_R :=
  fM_join_35 xj_fu v0 v2 v3 v3 v1 v2 A
def fM_join_2 : Nat → xj_Rf → Int32 → Int32 → Int32 → xj_H → Option xj_R
  | 0, _, _, _, _, _ => none
  | n + 1, v0, v1, v2, v3, A =>
    (xj_gi A v0 7 33).bind fun x1 =>
    if x1 ≤ v3 then
      fM_join_26 v0 v1 v2 v3 A
    else
      (xj_gr A v0 7 35).bind fun x2 =>
      (xj_ai A x2 0 v3).bind fun x3 =>
      if v1 ≤ x3 then
        fM_join_26 v0 v1 v2 v3 A
      else
        (fM_join_2 n) v0 v1 v2 (v3 + 1) A
def fM_join (v0 : xj_Rf) (v1 : Int32) (v2 : Int32) (A : xj_H) : Option xj_R :=
  fM_join_2 xj_fu v0 v1 v2 (0 : Int32) A
theorem wM_join_211 {l : Launch} (hl : l.stackTraces = false) {z : xj_F} (B : xj_B l yM_join prog_11_method_46_code 9 none [] 2 z) (v0 : xj_Rf) (v3 : Int32) (v5 : Int32) (v6 : Int32) (v7 : Int32) (A : xj_H) (h : fM_join_211 v0 v3 v5 v6 v7 A = some (xf_r z)) : xj_W l z 211 [(0, xj_rv v0), (3, .int v3), (5, .int v5), (6, .int v6), (7, .int v7)] [] A := by
  unfold fM_join_211 at h
  refine xg_aload_n (pc := 211) (i := 0) (r := v0) B dM_join_211 rfl rfl ?_
  refine xg_getr (pc := 212) B dM_join_212 flM_50 h (fun x1 ex1 h => ?_)
  refine xg_iload_n (pc := 215) (i := 3) B dM_join_215 rfl rfl ?_
  refine xg_iload (pc := 216) (i := 5) B dM_join_216 rfl ?_
  refine xg_iastore (pc := 218) B dM_join_218 h (fun A2 eA2 h => ?_)
  refine xg_aload_n (pc := 219) (i := 0) (r := v0) B dM_join_219 rfl rfl ?_
  refine xg_getr (pc := 220) B dM_join_220 flM_53 h (fun x3 ex3 h => ?_)
  refine xg_iload_n (pc := 223) (i := 3) B dM_join_223 rfl rfl ?_
  refine xg_iload (pc := 224) (i := 6) B dM_join_224 rfl ?_
  refine xg_iastore (pc := 226) B dM_join_226 h (fun A4 eA4 h => ?_)
  refine xg_aload_n (pc := 227) (i := 0) (r := v0) B dM_join_227 rfl rfl ?_
  refine xg_dup (pc := 228) B dM_join_228 (xj_rv_cat v0) ?_
  refine xg_geti (pc := 229) B dM_join_229 flM_268 h (fun x5 ex5 h => ?_)
  refine xg_iload (pc := 232) (i := 7) B dM_join_232 rfl ?_
  refine xg_iadd (pc := 234) B dM_join_234 ?_
  refine xg_puti (pc := 235) B dM_join_235 (fpM_268 _) h (fun A6 eA6 h => ?_)
  exact xg_vret B dM_join_238 h
theorem wM_join_157 {l : Launch} (hl : l.stackTraces = false) {z : xj_F} (B : xj_B l yM_join prog_11_method_46_code 9 none [] 2 z) : ∀ (n : Nat) (v0 : xj_Rf) (v3 : Int32) (v5 : Int32) (v6 : Int32) (v7 : Int32) (v8 : Int32) (A : xj_H), fM_join_157 n v0 v3 v5 v6 v7 v8 A = some (xf_r z) → xj_W l z 157 [(0, xj_rv v0), (3, .int v3), (5, .int v5), (6, .int v6), (7, .int v7), (8, .int v8)] [] A
  | 0, _, _, _, _, _, _, _, h => by simp [fM_join_157] at h
  | n + 1, v0, v3, v5, v6, v7, v8, A, h => by
    rw [fM_join_157] at h
    refine xg_iload (pc := 157) (i := 8) B dM_join_157 rfl ?_
    refine xg_aload_n (pc := 159) (i := 0) (r := v0) B dM_join_159 rfl rfl ?_
    refine xg_geti (pc := 160) B dM_join_160 flM_268 h (fun x1 ex1 h => ?_)
    refine xg_icmp_ge (pc := 163) (tgt := 211) B dM_join_163 (by decide) h (fun c163 h => ?_) (fun c163 h => ?_)
    · refine xg_sub (ls' := [(0, xj_rv v0), (3, .int v3), (5, .int v5), (6, .int v6), (7, .int v7)]) [0, 1, 2, 3, 4] rfl ?_
      exact wM_join_211 hl B v0 v3 v5 v6 v7 A h
    · refine xg_iload (pc := 166) (i := 7) B dM_join_166 rfl ?_
      refine xg_if_ge (pc := 168) (tgt := 211) B dM_join_168 (by decide) h (fun c168 h => ?_) (fun c168 h => ?_)
      · refine xg_sub (ls' := [(0, xj_rv v0), (3, .int v3), (5, .int v5), (6, .int v6), (7, .int v7)]) [0, 1, 2, 3, 4] rfl ?_
        exact wM_join_211 hl B v0 v3 v5 v6 v7 A h
      · refine xg_aload_n (pc := 171) (i := 0) (r := v0) B dM_join_171 rfl rfl ?_
        refine xg_getr (pc := 172) B dM_join_172 flM_50 h (fun x2 ex2 h => ?_)
        refine xg_iload (pc := 175) (i := 8) B dM_join_175 rfl ?_
        refine xg_iload (pc := 177) (i := 7) B dM_join_177 rfl ?_
        refine xg_iadd (pc := 179) B dM_join_179 ?_
        refine xg_aload_n (pc := 180) (i := 0) (r := v0) B dM_join_180 rfl rfl ?_
        refine xg_getr (pc := 181) B dM_join_181 flM_50 h (fun x3 ex3 h => ?_)
        refine xg_iload (pc := 184) (i := 8) B dM_join_184 rfl ?_
        refine xg_iaload (pc := 186) B dM_join_186 h (fun x4 ex4 h => ?_)
        refine xg_iastore (pc := 187) B dM_join_187 h (fun A5 eA5 h => ?_)
        refine xg_aload_n (pc := 188) (i := 0) (r := v0) B dM_join_188 rfl rfl ?_
        refine xg_getr (pc := 189) B dM_join_189 flM_53 h (fun x6 ex6 h => ?_)
        refine xg_iload (pc := 192) (i := 8) B dM_join_192 rfl ?_
        refine xg_iload (pc := 194) (i := 7) B dM_join_194 rfl ?_
        refine xg_iadd (pc := 196) B dM_join_196 ?_
        refine xg_aload_n (pc := 197) (i := 0) (r := v0) B dM_join_197 rfl rfl ?_
        refine xg_getr (pc := 198) B dM_join_198 flM_53 h (fun x7 ex7 h => ?_)
        refine xg_iload (pc := 201) (i := 8) B dM_join_201 rfl ?_
        refine xg_iaload (pc := 203) B dM_join_203 h (fun x8 ex8 h => ?_)
        refine xg_iastore (pc := 204) B dM_join_204 h (fun A9 eA9 h => ?_)
        refine xg_iinc (pc := 205) (i := 8) (v := (v8 + 1)) (ls' := [(8, .int (v8 + 1)), (0, xj_rv v0), (3, .int v3), (5, .int v5), (6, .int v6), (7, .int v7)]) B dM_join_205 rfl (xj_inc_1 _) (by decide) ⟨xj_nq (a := 0) (i := 8) (by decide), xj_nq (a := 3) (i := 8) (by decide), xj_nq (a := 5) (i := 8) (by decide), xj_nq (a := 6) (i := 8) (by decide), fun _ => rfl, xj_nq (a := 8) (i := 8) (by decide), trivial⟩ rfl ?_
        refine xg_goto (pc := 208) (tgt := 157) B dM_join_208 (by decide) ?_
        refine xg_sub (ls' := [(0, xj_rv v0), (3, .int v3), (5, .int v5), (6, .int v6), (7, .int v7), (8, .int (v8 + 1))]) [1, 2, 3, 4, 5, 0] rfl ?_
        exact (wM_join_157 hl B n) v0 v3 v5 v6 v7 (v8 + 1) A9 h
theorem wM_join_153 {l : Launch} (hl : l.stackTraces = false) {z : xj_F} (B : xj_B l yM_join prog_11_method_46_code 9 none [] 2 z) (v0 : xj_Rf) (v3 : Int32) (v4 : Int32) (v5 : Int32) (v6 : Int32) (v7 : Int32) (A : xj_H) (h : fM_join_153 v0 v3 v4 v5 v6 v7 A = some (xf_r z)) : xj_W l z 153 [(0, xj_rv v0), (3, .int v3), (4, .int v4), (5, .int v5), (6, .int v6), (7, .int v7)] [] A := by
  unfold fM_join_153 at h
  refine xg_iload (pc := 153) (i := 4) B dM_join_153 rfl ?_
  refine xg_istore (pc := 155) (i := 8) (ls' := [(8, .int v4), (0, xj_rv v0), (3, .int v3), (4, .int v4), (5, .int v5), (6, .int v6), (7, .int v7)]) B dM_join_155 (by decide) ⟨xj_nq (a := 0) (i := 8) (by decide), xj_nq (a := 3) (i := 8) (by decide), xj_nq (a := 4) (i := 8) (by decide), xj_nq (a := 5) (i := 8) (by decide), xj_nq (a := 6) (i := 8) (by decide), fun _ => rfl, trivial⟩ rfl ?_
  refine xg_sub (ls' := [(0, xj_rv v0), (3, .int v3), (5, .int v5), (6, .int v6), (7, .int v7), (8, .int v4)]) [1, 2, 4, 5, 6, 0] rfl ?_
  exact wM_join_157 hl B xj_fu v0 v3 v5 v6 v7 v4 A h
theorem wM_join_109 {l : Launch} (hl : l.stackTraces = false) {z : xj_F} (B : xj_B l yM_join prog_11_method_46_code 9 none [] 2 z) : ∀ (n : Nat) (v0 : xj_Rf) (v3 : Int32) (v4 : Int32) (v5 : Int32) (v6 : Int32) (v7 : Int32) (v8 : Int32) (A : xj_H), fM_join_109 n v0 v3 v4 v5 v6 v7 v8 A = some (xf_r z) → xj_W l z 109 [(0, xj_rv v0), (3, .int v3), (4, .int v4), (5, .int v5), (6, .int v6), (7, .int v7), (8, .int v8)] [] A
  | 0, _, _, _, _, _, _, _, _, h => by simp [fM_join_109] at h
  | n + 1, v0, v3, v4, v5, v6, v7, v8, A, h => by
    rw [fM_join_109] at h
    refine xg_iload (pc := 109) (i := 8) B dM_join_109 rfl ?_
    refine xg_iload_n (pc := 111) (i := 3) B dM_join_111 rfl rfl ?_
    refine xg_icmp_le (pc := 112) (tgt := 153) B dM_join_112 (by decide) h (fun c112 h => ?_) (fun c112 h => ?_)
    · refine xg_sub (ls' := [(0, xj_rv v0), (3, .int v3), (4, .int v4), (5, .int v5), (6, .int v6), (7, .int v7)]) [0, 1, 2, 3, 4, 5] rfl ?_
      exact wM_join_153 hl B v0 v3 v4 v5 v6 v7 A h
    · refine xg_aload_n (pc := 115) (i := 0) (r := v0) B dM_join_115 rfl rfl ?_
      refine xg_getr (pc := 116) B dM_join_116 flM_50 h (fun x1 ex1 h => ?_)
      refine xg_iload (pc := 119) (i := 8) B dM_join_119 rfl ?_
      refine xg_aload_n (pc := 121) (i := 0) (r := v0) B dM_join_121 rfl rfl ?_
      refine xg_getr (pc := 122) B dM_join_122 flM_50 h (fun x2 ex2 h => ?_)
      refine xg_iload (pc := 125) (i := 8) B dM_join_125 rfl ?_
      refine xg_iconst (pc := 127) (v := 1) B dM_join_127 (by decide) ?_
      refine xg_isub (pc := 128) B dM_join_128 ?_
      refine xg_iaload (pc := 129) B dM_join_129 h (fun x3 ex3 h => ?_)
      refine xg_iastore (pc := 130) B dM_join_130 h (fun A4 eA4 h => ?_)
      refine xg_aload_n (pc := 131) (i := 0) (r := v0) B dM_join_131 rfl rfl ?_
      refine xg_getr (pc := 132) B dM_join_132 flM_53 h (fun x5 ex5 h => ?_)
      refine xg_iload (pc := 135) (i := 8) B dM_join_135 rfl ?_
      refine xg_aload_n (pc := 137) (i := 0) (r := v0) B dM_join_137 rfl rfl ?_
      refine xg_getr (pc := 138) B dM_join_138 flM_53 h (fun x6 ex6 h => ?_)
      refine xg_iload (pc := 141) (i := 8) B dM_join_141 rfl ?_
      refine xg_iconst (pc := 143) (v := 1) B dM_join_143 (by decide) ?_
      refine xg_isub (pc := 144) B dM_join_144 ?_
      refine xg_iaload (pc := 145) B dM_join_145 h (fun x7 ex7 h => ?_)
      refine xg_iastore (pc := 146) B dM_join_146 h (fun A8 eA8 h => ?_)
      refine xg_iinc (pc := 147) (i := 8) (v := (v8 - 1)) (ls' := [(8, .int (v8 - 1)), (0, xj_rv v0), (3, .int v3), (4, .int v4), (5, .int v5), (6, .int v6), (7, .int v7)]) B dM_join_147 rfl (xj_inc_m1 _) (by decide) ⟨xj_nq (a := 0) (i := 8) (by decide), xj_nq (a := 3) (i := 8) (by decide), xj_nq (a := 4) (i := 8) (by decide), xj_nq (a := 5) (i := 8) (by decide), xj_nq (a := 6) (i := 8) (by decide), fun _ => rfl, xj_nq (a := 8) (i := 8) (by decide), trivial⟩ rfl ?_
      refine xg_goto (pc := 150) (tgt := 109) B dM_join_150 (by decide) ?_
      refine xg_sub (ls' := [(0, xj_rv v0), (3, .int v3), (4, .int v4), (5, .int v5), (6, .int v6), (7, .int v7), (8, .int (v8 - 1))]) [1, 2, 3, 4, 5, 6, 0] rfl ?_
      exact (wM_join_109 hl B n) v0 v3 v4 v5 v6 v7 (v8 - 1) A8 h
theorem wM_join_89 {l : Launch} (hl : l.stackTraces = false) {z : xj_F} (B : xj_B l yM_join prog_11_method_46_code 9 none [] 2 z) (v0 : xj_Rf) (v3 : Int32) (v4 : Int32) (v5 : Int32) (v6 : Int32) (A : xj_H) (h : fM_join_89 v0 v3 v4 v5 v6 A = some (xf_r z)) : xj_W l z 89 [(0, xj_rv v0), (3, .int v3), (4, .int v4), (5, .int v5), (6, .int v6)] [] A := by
  unfold fM_join_89 at h
  refine xg_iload_n (pc := 89) (i := 3) B dM_join_89 rfl rfl ?_
  refine xg_iconst (pc := 90) (v := 1) B dM_join_90 (by decide) ?_
  refine xg_iadd (pc := 91) B dM_join_91 ?_
  refine xg_iload (pc := 92) (i := 4) B dM_join_92 rfl ?_
  refine xg_isub (pc := 94) B dM_join_94 ?_
  refine xg_istore (pc := 95) (i := 7) (ls' := [(7, .int ((v3 + (1 : Int32)) - v4)), (0, xj_rv v0), (3, .int v3), (4, .int v4), (5, .int v5), (6, .int v6)]) B dM_join_95 (by decide) ⟨xj_nq (a := 0) (i := 7) (by decide), xj_nq (a := 3) (i := 7) (by decide), xj_nq (a := 4) (i := 7) (by decide), xj_nq (a := 5) (i := 7) (by decide), fun _ => rfl, trivial⟩ rfl ?_
  refine xg_iload (pc := 97) (i := 7) B dM_join_97 rfl ?_
  refine xg_iconst (pc := 99) (v := 1) B dM_join_99 (by decide) ?_
  refine xg_icmp_ne (pc := 100) (tgt := 153) B dM_join_100 (by decide) h (fun c100 h => ?_) (fun c100 h => ?_)
  · refine xg_sub (ls' := [(0, xj_rv v0), (3, .int v3), (4, .int v4), (5, .int v5), (6, .int v6), (7, .int ((v3 + (1 : Int32)) - v4))]) [1, 2, 3, 4, 5, 0] rfl ?_
    exact wM_join_153 hl B v0 v3 v4 v5 v6 ((v3 + (1 : Int32)) - v4) A h
  · refine xg_aload_n (pc := 103) (i := 0) (r := v0) B dM_join_103 rfl rfl ?_
    refine xg_geti (pc := 104) B dM_join_104 flM_268 h (fun x1 ex1 h => ?_)
    refine xg_istore (pc := 107) (i := 8) (ls' := [(8, .int x1), (7, .int ((v3 + (1 : Int32)) - v4)), (0, xj_rv v0), (3, .int v3), (4, .int v4), (5, .int v5), (6, .int v6)]) B dM_join_107 (by decide) ⟨fun _ => rfl, xj_nq (a := 0) (i := 8) (by decide), xj_nq (a := 3) (i := 8) (by decide), xj_nq (a := 4) (i := 8) (by decide), xj_nq (a := 5) (i := 8) (by decide), xj_nq (a := 6) (i := 8) (by decide), trivial⟩ rfl ?_
    refine xg_sub (ls' := [(0, xj_rv v0), (3, .int v3), (4, .int v4), (5, .int v5), (6, .int v6), (7, .int ((v3 + (1 : Int32)) - v4)), (8, .int x1)]) [2, 3, 4, 5, 6, 1, 0] rfl ?_
    exact wM_join_109 hl B xj_fu v0 v3 v4 v5 v6 ((v3 + (1 : Int32)) - v4) x1 A h
theorem wM_join_35 {l : Launch} (hl : l.stackTraces = false) {z : xj_F} (B : xj_B l yM_join prog_11_method_46_code 9 none [] 2 z) : ∀ (n : Nat) (v0 : xj_Rf) (v2 : Int32) (v3 : Int32) (v4 : Int32) (v5 : Int32) (v6 : Int32) (A : xj_H), fM_join_35 n v0 v2 v3 v4 v5 v6 A = some (xf_r z) → xj_W l z 35 [(0, xj_rv v0), (2, .int v2), (3, .int v3), (4, .int v4), (5, .int v5), (6, .int v6)] [] A
  | 0, _, _, _, _, _, _, _, h => by simp [fM_join_35] at h
  | n + 1, v0, v2, v3, v4, v5, v6, A, h => by
    rw [fM_join_35] at h
    refine xg_iload (pc := 35) (i := 4) B dM_join_35 rfl ?_
    refine xg_aload_n (pc := 37) (i := 0) (r := v0) B dM_join_37 rfl rfl ?_
    refine xg_geti (pc := 38) B dM_join_38 flM_268 h (fun x1 ex1 h => ?_)
    refine xg_icmp_ge (pc := 41) (tgt := 89) B dM_join_41 (by decide) h (fun c41 h => ?_) (fun c41 h => ?_)
    · refine xg_sub (ls' := [(0, xj_rv v0), (3, .int v3), (4, .int v4), (5, .int v5), (6, .int v6)]) [0, 2, 3, 4, 5] rfl ?_
      exact wM_join_89 hl B v0 v3 v4 v5 v6 A h
    · refine xg_aload_n (pc := 44) (i := 0) (r := v0) B dM_join_44 rfl rfl ?_
      refine xg_getr (pc := 45) B dM_join_45 flM_50 h (fun x2 ex2 h => ?_)
      refine xg_iload (pc := 48) (i := 4) B dM_join_48 rfl ?_
      refine xg_iaload (pc := 50) B dM_join_50 h (fun x3 ex3 h => ?_)
      refine xg_iload_n (pc := 51) (i := 2) B dM_join_51 rfl rfl ?_
      refine xg_icmp_gt (pc := 52) (tgt := 89) B dM_join_52 (by decide) h (fun c52 h => ?_) (fun c52 h => ?_)
      · refine xg_sub (ls' := [(0, xj_rv v0), (3, .int v3), (4, .int v4), (5, .int v5), (6, .int v6)]) [0, 2, 3, 4, 5] rfl ?_
        exact wM_join_89 hl B v0 v3 v4 v5 v6 A h
      · refine xg_iload (pc := 55) (i := 5) B dM_join_55 rfl ?_
        refine xg_aload_n (pc := 57) (i := 0) (r := v0) B dM_join_57 rfl rfl ?_
        refine xg_getr (pc := 58) B dM_join_58 flM_50 h (fun x4 ex4 h => ?_)
        refine xg_iload (pc := 61) (i := 4) B dM_join_61 rfl ?_
        refine xg_iaload (pc := 63) B dM_join_63 h (fun x5 ex5 h => ?_)
        refine xg_ci (pc := 64) (av := [.int v5, .int x5]) (st := []) (cy := prog_11_method_44_code) (nLy := 2) (rety := (some .int)) (hsy := []) B dM_join_64 (xj_go_s B dM_join_64 swM_271 rfl) swM_271.2.2.1 swM_271.2.2.2.1 (by decide) (by decide) (by decide) rfl (fun r9 h9 => cM_least hl _ _ _ r9 h9) h (fun x6 A7 eA7 h => ?_)
        refine xg_istore (pc := 67) (i := 5) (ls' := [(5, .int x6), (0, xj_rv v0), (2, .int v2), (3, .int v3), (4, .int v4), (6, .int v6)]) B dM_join_67 (by decide) ⟨xj_nq (a := 0) (i := 5) (by decide), xj_nq (a := 2) (i := 5) (by decide), xj_nq (a := 3) (i := 5) (by decide), fun _ => rfl, xj_nq (a := 5) (i := 5) (by decide), xj_nq (a := 6) (i := 5) (by decide), trivial⟩ rfl ?_
        refine xg_iload (pc := 69) (i := 6) B dM_join_69 rfl ?_
        refine xg_aload_n (pc := 71) (i := 0) (r := v0) B dM_join_71 rfl rfl ?_
        refine xg_getr (pc := 72) B dM_join_72 flM_53 h (fun x8 ex8 h => ?_)
        refine xg_iload (pc := 75) (i := 4) B dM_join_75 rfl ?_
        refine xg_iaload (pc := 77) B dM_join_77 h (fun x9 ex9 h => ?_)
        refine xg_ci (pc := 78) (av := [.int v6, .int x9]) (st := []) (cy := prog_11_method_45_code) (nLy := 2) (rety := (some .int)) (hsy := []) B dM_join_78 (xj_go_s B dM_join_78 swM_274 rfl) swM_274.2.2.1 swM_274.2.2.2.1 (by decide) (by decide) (by decide) rfl (fun r9 h9 => cM_greatest hl _ _ _ r9 h9) h (fun x10 A11 eA11 h => ?_)
        refine xg_istore (pc := 81) (i := 6) (ls' := [(6, .int x10), (5, .int x6), (0, xj_rv v0), (2, .int v2), (3, .int v3), (4, .int v4)]) B dM_join_81 (by decide) ⟨fun _ => rfl, xj_nq (a := 0) (i := 6) (by decide), xj_nq (a := 2) (i := 6) (by decide), xj_nq (a := 3) (i := 6) (by decide), xj_nq (a := 4) (i := 6) (by decide), xj_nq (a := 6) (i := 6) (by decide), trivial⟩ rfl ?_
        refine xg_iinc (pc := 83) (i := 4) (v := (v4 + 1)) (ls' := [(4, .int (v4 + 1)), (6, .int x10), (5, .int x6), (0, xj_rv v0), (2, .int v2), (3, .int v3)]) B dM_join_83 rfl (xj_inc_1 _) (by decide) ⟨xj_nq (a := 6) (i := 4) (by decide), xj_nq (a := 5) (i := 4) (by decide), xj_nq (a := 0) (i := 4) (by decide), xj_nq (a := 2) (i := 4) (by decide), fun _ => rfl, xj_nq (a := 4) (i := 4) (by decide), trivial⟩ rfl ?_
        refine xg_goto (pc := 86) (tgt := 35) B dM_join_86 (by decide) ?_
        refine xg_sub (ls' := [(0, xj_rv v0), (2, .int v2), (3, .int v3), (4, .int (v4 + 1)), (5, .int x6), (6, .int x10)]) [3, 4, 5, 0, 2, 1] rfl ?_
        exact (wM_join_35 hl B n) v0 v2 v3 (v4 + 1) x6 x10 A11 h
theorem wM_join_26 {l : Launch} (hl : l.stackTraces = false) {z : xj_F} (B : xj_B l yM_join prog_11_method_46_code 9 none [] 2 z) (v0 : xj_Rf) (v1 : Int32) (v2 : Int32) (v3 : Int32) (A : xj_H) (h : fM_join_26 v0 v1 v2 v3 A = some (xf_r z)) : xj_W l z 26 [(0, xj_rv v0), (1, .int v1), (2, .int v2), (3, .int v3)] [] A := by
  unfold fM_join_26 at h
  refine xg_iload_n (pc := 26) (i := 3) B dM_join_26 rfl rfl ?_
  refine xg_istore (pc := 27) (i := 4) (ls' := [(4, .int v3), (0, xj_rv v0), (1, .int v1), (2, .int v2), (3, .int v3)]) B dM_join_27 (by decide) ⟨xj_nq (a := 0) (i := 4) (by decide), xj_nq (a := 1) (i := 4) (by decide), xj_nq (a := 2) (i := 4) (by decide), fun _ => rfl, trivial⟩ rfl ?_
  refine xg_iload_n (pc := 29) (i := 1) B dM_join_29 rfl rfl ?_
  refine xg_istore (pc := 30) (i := 5) (ls' := [(5, .int v1), (4, .int v3), (0, xj_rv v0), (1, .int v1), (2, .int v2), (3, .int v3)]) B dM_join_30 (by decide) ⟨fun _ => rfl, xj_nq (a := 0) (i := 5) (by decide), xj_nq (a := 1) (i := 5) (by decide), xj_nq (a := 2) (i := 5) (by decide), xj_nq (a := 3) (i := 5) (by decide), trivial⟩ rfl ?_
  refine xg_iload_n (pc := 32) (i := 2) B dM_join_32 rfl rfl ?_
  refine xg_istore (pc := 33) (i := 6) (ls' := [(6, .int v2), (5, .int v1), (4, .int v3), (0, xj_rv v0), (1, .int v1), (2, .int v2), (3, .int v3)]) B dM_join_33 (by decide) ⟨fun _ => rfl, xj_nq (a := 4) (i := 6) (by decide), xj_nq (a := 0) (i := 6) (by decide), xj_nq (a := 1) (i := 6) (by decide), xj_nq (a := 2) (i := 6) (by decide), xj_nq (a := 3) (i := 6) (by decide), trivial⟩ rfl ?_
  refine xg_sub (ls' := [(0, xj_rv v0), (2, .int v2), (3, .int v3), (4, .int v3), (5, .int v1), (6, .int v2)]) [3, 5, 6, 2, 1, 0] rfl ?_
  exact wM_join_35 hl B xj_fu v0 v2 v3 v3 v1 v2 A h
theorem wM_join_2 {l : Launch} (hl : l.stackTraces = false) {z : xj_F} (B : xj_B l yM_join prog_11_method_46_code 9 none [] 2 z) : ∀ (n : Nat) (v0 : xj_Rf) (v1 : Int32) (v2 : Int32) (v3 : Int32) (A : xj_H), fM_join_2 n v0 v1 v2 v3 A = some (xf_r z) → xj_W l z 2 [(0, xj_rv v0), (1, .int v1), (2, .int v2), (3, .int v3)] [] A
  | 0, _, _, _, _, _, h => by simp [fM_join_2] at h
  | n + 1, v0, v1, v2, v3, A, h => by
    rw [fM_join_2] at h
    refine xg_iload_n (pc := 2) (i := 3) B dM_join_2 rfl rfl ?_
    refine xg_aload_n (pc := 3) (i := 0) (r := v0) B dM_join_3 rfl rfl ?_
    refine xg_geti (pc := 4) B dM_join_4 flM_268 h (fun x1 ex1 h => ?_)
    refine xg_icmp_ge (pc := 7) (tgt := 26) B dM_join_7 (by decide) h (fun c7 h => ?_) (fun c7 h => ?_)
    · exact wM_join_26 hl B v0 v1 v2 v3 A h
    · refine xg_aload_n (pc := 10) (i := 0) (r := v0) B dM_join_10 rfl rfl ?_
      refine xg_getr (pc := 11) B dM_join_11 flM_53 h (fun x2 ex2 h => ?_)
      refine xg_iload_n (pc := 14) (i := 3) B dM_join_14 rfl rfl ?_
      refine xg_iaload (pc := 15) B dM_join_15 h (fun x3 ex3 h => ?_)
      refine xg_iload_n (pc := 16) (i := 1) B dM_join_16 rfl rfl ?_
      refine xg_icmp_ge (pc := 17) (tgt := 26) B dM_join_17 (by decide) h (fun c17 h => ?_) (fun c17 h => ?_)
      · exact wM_join_26 hl B v0 v1 v2 v3 A h
      · refine xg_iinc (pc := 20) (i := 3) (v := (v3 + 1)) (ls' := [(3, .int (v3 + 1)), (0, xj_rv v0), (1, .int v1), (2, .int v2)]) B dM_join_20 rfl (xj_inc_1 _) (by decide) ⟨xj_nq (a := 0) (i := 3) (by decide), xj_nq (a := 1) (i := 3) (by decide), fun _ => rfl, xj_nq (a := 3) (i := 3) (by decide), trivial⟩ rfl ?_
        refine xg_goto (pc := 23) (tgt := 2) B dM_join_23 (by decide) ?_
        refine xg_sub (ls' := [(0, xj_rv v0), (1, .int v1), (2, .int v2), (3, .int (v3 + 1))]) [1, 2, 3, 0] rfl ?_
        exact (wM_join_2 hl B n) v0 v1 v2 (v3 + 1) A h
theorem wM_join {l : Launch} (hl : l.stackTraces = false) {z : xj_F} (B : xj_B l yM_join prog_11_method_46_code 9 none [] 2 z) (v0 : xj_Rf) (v1 : Int32) (v2 : Int32) (A : xj_H) (h : fM_join v0 v1 v2 A = some (xf_r z)) : xj_W l z 0 [(0, xj_rv v0), (1, .int v1), (2, .int v2)] [] A := by
  unfold fM_join at h
  refine xg_iconst (pc := 0) (v := 0) B dM_join_0 (by decide) ?_
  refine xg_istore_n (pc := 1) (i := 3) (ls' := [(3, .int (0 : Int32)), (0, xj_rv v0), (1, .int v1), (2, .int v2)]) B dM_join_1 rfl (by decide) ⟨xj_nq (a := 0) (i := 3) (by decide), xj_nq (a := 1) (i := 3) (by decide), fun _ => rfl, trivial⟩ rfl ?_
  refine xg_sub (ls' := [(0, xj_rv v0), (1, .int v1), (2, .int v2), (3, .int (0 : Int32))]) [1, 2, 3, 0] rfl ?_
  exact wM_join_2 hl B xj_fu v0 v1 v2 (0 : Int32) A h
theorem cM_join {l : Launch} (hl : l.stackTraces = false) (v0 : xj_Rf) (v1 : Int32) (v2 : Int32) (A : xj_H) (r : xj_R) (h : fM_join v0 v1 v2 A = some r) : xj_M l yM_join prog_11_method_46_code 9 none [] 2 [xj_rv v0, .int v1, .int v2] A r := by
  refine xj_M.of hl (by decide +kernel) (by simp [lg_sl, xj_ic, xj_lc, xj_rv_cat]) (fun z B hA hr => ?_)
  subst hr
  have hw := wM_join hl B v0 v1 v2 A h
  simpa [lv_args, xj_ic, xj_lc, xj_rv_cat] using hw
/-! RecurrenceBookModel.busy(II)I -/
def fM_busy_142 (k38 : xj_Rf → Int32 → Int32 → Int32 → xj_H → Option xj_R) (k49 : xj_Rf → Int32 → Int32 → Int32 → Int32 → xj_H → Option xj_R) (v0 : xj_Rf) (v1 : Int32) (v2 : Int32) (v3 : Int32) (v4 : Int32) (A : xj_H) : Option xj_R :=
  k49 v0 v1 v2 v3 (v4 + 1) A
def fM_busy_49 (k38 : xj_Rf → Int32 → Int32 → Int32 → xj_H → Option xj_R) : Nat → xj_Rf → Int32 → Int32 → Int32 → Int32 → xj_H → Option xj_R
  | 0, _, _, _, _, _, _ => none
  | n + 1, v0, v1, v2, v3, v4, A =>
    (xj_gr A v0 7 11).bind fun x1 =>
    (xj_ai A x1 0 v3).bind fun x2 =>
    if x2 ≤ v4 then
      k38 v0 v1 v2 (v3 + 1) A
    else
      (xj_gr A v0 7 10).bind fun x3 =>
      (xj_ai A x3 0 (((200 : Int32) * v3) + v4)).bind fun x4 =>
      (xj_gr A v0 7 8).bind fun x5 =>
      (xj_ai A x5 0 v3).bind fun x6 =>
      xj_bi (xj_rq A v0 7 (fM_momentOf v0 (((1440 : Int32) * x4) + x6) A)) fun x7 A8 =>
      xj_bi (fM_greatest x7 v1 A8) fun x9 A10 =>
      (xj_gr A10 v0 7 9).bind fun x11 =>
      (xj_ai A10 x11 0 v3).bind fun x12 =>
      xj_bi (fM_least (x7 + x12) v2 A10) fun x13 A14 =>
      if x13 ≤ x9 then
        fM_busy_142 k38 (fM_busy_49 k38 n) v0 v1 v2 v3 v4 A14
      else
        xj_bi (xj_rq A14 v0 7 (fM_isExcluded v0 v3 x4 A14)) fun x15 A16 =>
        if ¬ x15 = 0 then
          fM_busy_142 k38 (fM_busy_49 k38 n) v0 v1 v2 v3 v4 A16
        else
          xj_bv (xj_rq A16 v0 7 (fM_join v0 x9 x13 A16)) fun A17 =>
          fM_busy_142 k38 (fM_busy_49 k38 n) v0 v1 v2 v3 v4 A17
def fM_busy_38 : Nat → xj_Rf → Int32 → Int32 → Int32 → xj_H → Option xj_R
  | 0, _, _, _, _, _ => none
  | n + 1, v0, v1, v2, v3, A =>
    (xj_gi A v0 7 7).bind fun x1 =>
    if x1 ≤ v3 then
      (xj_gi A v0 7 33).bind fun x2 =>
      some (.inl (some (.int x2)), A)
    else
      fM_busy_49 (fM_busy_38 n) xj_fu v0 v1 v2 v3 (0 : Int32) A
def fM_busy_23 (v0 : xj_Rf) (v1 : Int32) (v2 : Int32) (s0 : Int32) (s1 : xj_Rf) (A : xj_H) : Option xj_R :=
  xj_bi (xj_rq A s1 7 (fM_fails s1 s0 A)) fun x1 A2 =>
  if x1 = 0 then
    (xj_pv A2 v0 7 33 (.int (0 : Int32))).bind fun A3 =>
    fM_busy_38 xj_fu v0 v1 v2 (0 : Int32) A3
  else
    some (.inl (some (.int (0 : Int32))), A2)
def fM_busy_18 (v0 : xj_Rf) (v1 : Int32) (v2 : Int32) (s0 : xj_Rf) (A : xj_H) : Option xj_R :=
  fM_busy_23 v0 v1 v2 (1 : Int32) s0 A
def fM_busy (v0 : xj_Rf) (v1 : Int32) (v2 : Int32) (A : xj_H) : Option xj_R :=
  if v2 ≤ v1 then
    fM_busy_18 v0 v1 v2 v0 A
  else
    if (lg_cmp ((Int32.toInt64 v2) - (Int32.toInt64 v1)) (200000 : Int64)) ≤ 0 then
      fM_busy_23 v0 v1 v2 (0 : Int32) v0 A
    else
      fM_busy_18 v0 v1 v2 v0 A
theorem wM_busy_142 {l : Launch} (hl : l.stackTraces = false) {z : xj_F} (B : xj_B l yM_busy prog_11_method_47_code 9 (some .int) [] 3 z) (k38 : xj_Rf → Int32 → Int32 → Int32 → xj_H → Option xj_R) (hk38 : ∀ (v0 : xj_Rf) (v1 : Int32) (v2 : Int32) (v3 : Int32) (A : xj_H), k38 v0 v1 v2 v3 A = some (xf_r z) → xj_W l z 38 [(0, xj_rv v0), (1, .int v1), (2, .int v2), (3, .int v3)] [] A) (k49 : xj_Rf → Int32 → Int32 → Int32 → Int32 → xj_H → Option xj_R) (hk49 : ∀ (v0 : xj_Rf) (v1 : Int32) (v2 : Int32) (v3 : Int32) (v4 : Int32) (A : xj_H), k49 v0 v1 v2 v3 v4 A = some (xf_r z) → xj_W l z 49 [(0, xj_rv v0), (1, .int v1), (2, .int v2), (3, .int v3), (4, .int v4)] [] A) (v0 : xj_Rf) (v1 : Int32) (v2 : Int32) (v3 : Int32) (v4 : Int32) (A : xj_H) (h : fM_busy_142 k38 k49 v0 v1 v2 v3 v4 A = some (xf_r z)) : xj_W l z 142 [(0, xj_rv v0), (1, .int v1), (2, .int v2), (3, .int v3), (4, .int v4)] [] A := by
  unfold fM_busy_142 at h
  refine xg_iinc (pc := 142) (i := 4) (v := (v4 + 1)) (ls' := [(4, .int (v4 + 1)), (0, xj_rv v0), (1, .int v1), (2, .int v2), (3, .int v3)]) B dM_busy_142 rfl (xj_inc_1 _) (by decide) ⟨xj_nq (a := 0) (i := 4) (by decide), xj_nq (a := 1) (i := 4) (by decide), xj_nq (a := 2) (i := 4) (by decide), fun _ => rfl, xj_nq (a := 4) (i := 4) (by decide), trivial⟩ rfl ?_
  refine xg_goto (pc := 145) (tgt := 49) B dM_busy_145 (by decide) ?_
  refine xg_sub (ls' := [(0, xj_rv v0), (1, .int v1), (2, .int v2), (3, .int v3), (4, .int (v4 + 1))]) [1, 2, 3, 4, 0] rfl ?_
  exact hk49 v0 v1 v2 v3 (v4 + 1) A h
theorem wM_busy_49 {l : Launch} (hl : l.stackTraces = false) {z : xj_F} (B : xj_B l yM_busy prog_11_method_47_code 9 (some .int) [] 3 z) (k38 : xj_Rf → Int32 → Int32 → Int32 → xj_H → Option xj_R) (hk38 : ∀ (v0 : xj_Rf) (v1 : Int32) (v2 : Int32) (v3 : Int32) (A : xj_H), k38 v0 v1 v2 v3 A = some (xf_r z) → xj_W l z 38 [(0, xj_rv v0), (1, .int v1), (2, .int v2), (3, .int v3)] [] A) : ∀ (n : Nat) (v0 : xj_Rf) (v1 : Int32) (v2 : Int32) (v3 : Int32) (v4 : Int32) (A : xj_H), fM_busy_49 k38 n v0 v1 v2 v3 v4 A = some (xf_r z) → xj_W l z 49 [(0, xj_rv v0), (1, .int v1), (2, .int v2), (3, .int v3), (4, .int v4)] [] A
  | 0, _, _, _, _, _, _, h => by simp [fM_busy_49] at h
  | n + 1, v0, v1, v2, v3, v4, A, h => by
    rw [fM_busy_49] at h
    refine xg_iload (pc := 49) (i := 4) B dM_busy_49 rfl ?_
    refine xg_aload_n (pc := 51) (i := 0) (r := v0) B dM_busy_51 rfl rfl ?_
    refine xg_getr (pc := 52) B dM_busy_52 flM_28 h (fun x1 ex1 h => ?_)
    refine xg_iload_n (pc := 55) (i := 3) B dM_busy_55 rfl rfl ?_
    refine xg_iaload (pc := 56) B dM_busy_56 h (fun x2 ex2 h => ?_)
    refine xg_icmp_ge (pc := 57) (tgt := 148) B dM_busy_57 (by decide) h (fun c57 h => ?_) (fun c57 h => ?_)
    · refine xg_iinc (pc := 148) (i := 3) (v := (v3 + 1)) (ls' := [(3, .int (v3 + 1)), (0, xj_rv v0), (1, .int v1), (2, .int v2), (4, .int v4)]) B dM_busy_148 rfl (xj_inc_1 _) (by decide) ⟨xj_nq (a := 0) (i := 3) (by decide), xj_nq (a := 1) (i := 3) (by decide), fun _ => rfl, xj_nq (a := 3) (i := 3) (by decide), xj_nq (a := 4) (i := 3) (by decide), trivial⟩ rfl ?_
      refine xg_goto (pc := 151) (tgt := 38) B dM_busy_151 (by decide) ?_
      refine xg_sub (ls' := [(0, xj_rv v0), (1, .int v1), (2, .int v2), (3, .int (v3 + 1))]) [1, 2, 3, 0] rfl ?_
      exact hk38 v0 v1 v2 (v3 + 1) A h
    · refine xg_aload_n (pc := 60) (i := 0) (r := v0) B dM_busy_60 rfl rfl ?_
      refine xg_getr (pc := 61) B dM_busy_61 flM_25 h (fun x3 ex3 h => ?_)
      refine xg_sipush (pc := 64) (v := 200) B dM_busy_64 (by decide) ?_
      refine xg_iload_n (pc := 67) (i := 3) B dM_busy_67 rfl rfl ?_
      refine xg_imul (pc := 68) B dM_busy_68 ?_
      refine xg_iload (pc := 69) (i := 4) B dM_busy_69 rfl ?_
      refine xg_iadd (pc := 71) B dM_busy_71 ?_
      refine xg_iaload (pc := 72) B dM_busy_72 h (fun x4 ex4 h => ?_)
      refine xg_istore (pc := 73) (i := 5) (ls' := [(5, .int x4), (0, xj_rv v0), (1, .int v1), (2, .int v2), (3, .int v3), (4, .int v4)]) B dM_busy_73 (by decide) ⟨xj_nq (a := 0) (i := 5) (by decide), xj_nq (a := 1) (i := 5) (by decide), xj_nq (a := 2) (i := 5) (by decide), xj_nq (a := 3) (i := 5) (by decide), fun _ => rfl, trivial⟩ rfl ?_
      refine xg_aload_n (pc := 75) (i := 0) (r := v0) B dM_busy_75 rfl rfl ?_
      refine xg_sipush (pc := 76) (v := 1440) B dM_busy_76 (by decide) ?_
      refine xg_iload (pc := 79) (i := 5) B dM_busy_79 rfl ?_
      refine xg_imul (pc := 81) B dM_busy_81 ?_
      refine xg_aload_n (pc := 82) (i := 0) (r := v0) B dM_busy_82 rfl rfl ?_
      refine xg_getr (pc := 83) B dM_busy_83 flM_19 h (fun x5 ex5 h => ?_)
      refine xg_iload_n (pc := 86) (i := 3) B dM_busy_86 rfl rfl ?_
      refine xg_iaload (pc := 87) B dM_busy_87 h (fun x6 ex6 h => ?_)
      refine xg_iadd (pc := 88) B dM_busy_88 ?_
      obtain ⟨hq89, h⟩ := xj_rq_i h
      refine xg_ci (pc := 89) (av := [xj_rv v0, .int (((1440 : Int32) * x4) + x6)]) (st := []) (cy := prog_11_method_16_code) (nLy := 2) (rety := (some .int)) (hsy := []) B dM_busy_89 (xj_go_v B dM_busy_89 vwM_265 rfl hq89) (xj_vw_c vwM_265) (xj_vw_i vwM_265) (by decide) (by decide) (by decide) rfl (fun r9 h9 => cM_momentOf hl _ _ _ r9 h9) h (fun x7 A8 eA8 h => ?_)
      refine xg_istore (pc := 92) (i := 6) (ls' := [(6, .int x7), (5, .int x4), (0, xj_rv v0), (1, .int v1), (2, .int v2), (3, .int v3), (4, .int v4)]) B dM_busy_92 (by decide) ⟨fun _ => rfl, xj_nq (a := 0) (i := 6) (by decide), xj_nq (a := 1) (i := 6) (by decide), xj_nq (a := 2) (i := 6) (by decide), xj_nq (a := 3) (i := 6) (by decide), xj_nq (a := 4) (i := 6) (by decide), trivial⟩ rfl ?_
      refine xg_iload (pc := 94) (i := 6) B dM_busy_94 rfl ?_
      refine xg_iload_n (pc := 96) (i := 1) B dM_busy_96 rfl rfl ?_
      refine xg_ci (pc := 97) (av := [.int x7, .int v1]) (st := []) (cy := prog_11_method_45_code) (nLy := 2) (rety := (some .int)) (hsy := []) B dM_busy_97 (xj_go_s B dM_busy_97 swM_274 rfl) swM_274.2.2.1 swM_274.2.2.2.1 (by decide) (by decide) (by decide) rfl (fun r9 h9 => cM_greatest hl _ _ _ r9 h9) h (fun x9 A10 eA10 h => ?_)
      refine xg_istore (pc := 100) (i := 7) (ls' := [(7, .int x9), (6, .int x7), (5, .int x4), (0, xj_rv v0), (1, .int v1), (2, .int v2), (3, .int v3), (4, .int v4)]) B dM_busy_100 (by decide) ⟨fun _ => rfl, xj_nq (a := 5) (i := 7) (by decide), xj_nq (a := 0) (i := 7) (by decide), xj_nq (a := 1) (i := 7) (by decide), xj_nq (a := 2) (i := 7) (by decide), xj_nq (a := 3) (i := 7) (by decide), xj_nq (a := 4) (i := 7) (by decide), trivial⟩ rfl ?_
      refine xg_iload (pc := 102) (i := 6) B dM_busy_102 rfl ?_
      refine xg_aload_n (pc := 104) (i := 0) (r := v0) B dM_busy_104 rfl rfl ?_
      refine xg_getr (pc := 105) B dM_busy_105 flM_22 h (fun x11 ex11 h => ?_)
      refine xg_iload_n (pc := 108) (i := 3) B dM_busy_108 rfl rfl ?_
      refine xg_iaload (pc := 109) B dM_busy_109 h (fun x12 ex12 h => ?_)
      refine xg_iadd (pc := 110) B dM_busy_110 ?_
      refine xg_iload_n (pc := 111) (i := 2) B dM_busy_111 rfl rfl ?_
      refine xg_ci (pc := 112) (av := [.int (x7 + x12), .int v2]) (st := []) (cy := prog_11_method_44_code) (nLy := 2) (rety := (some .int)) (hsy := []) B dM_busy_112 (xj_go_s B dM_busy_112 swM_271 rfl) swM_271.2.2.1 swM_271.2.2.2.1 (by decide) (by decide) (by decide) rfl (fun r9 h9 => cM_least hl _ _ _ r9 h9) h (fun x13 A14 eA14 h => ?_)
      refine xg_istore (pc := 115) (i := 8) (ls' := [(8, .int x13), (7, .int x9), (6, .int x7), (5, .int x4), (0, xj_rv v0), (1, .int v1), (2, .int v2), (3, .int v3), (4, .int v4)]) B dM_busy_115 (by decide) ⟨fun _ => rfl, xj_nq (a := 6) (i := 8) (by decide), xj_nq (a := 5) (i := 8) (by decide), xj_nq (a := 0) (i := 8) (by decide), xj_nq (a := 1) (i := 8) (by decide), xj_nq (a := 2) (i := 8) (by decide), xj_nq (a := 3) (i := 8) (by decide), xj_nq (a := 4) (i := 8) (by decide), trivial⟩ rfl ?_
      refine xg_iload (pc := 117) (i := 7) B dM_busy_117 rfl ?_
      refine xg_iload (pc := 119) (i := 8) B dM_busy_119 rfl ?_
      refine xg_icmp_ge (pc := 121) (tgt := 142) B dM_busy_121 (by decide) h (fun c121 h => ?_) (fun c121 h => ?_)
      · refine xg_sub (ls' := [(0, xj_rv v0), (1, .int v1), (2, .int v2), (3, .int v3), (4, .int v4)]) [4, 5, 6, 7, 8] rfl ?_
        exact wM_busy_142 hl B k38 hk38 (fM_busy_49 k38 n) (wM_busy_49 hl B k38 hk38 n) v0 v1 v2 v3 v4 A14 h
      · refine xg_aload_n (pc := 124) (i := 0) (r := v0) B dM_busy_124 rfl rfl ?_
        refine xg_iload_n (pc := 125) (i := 3) B dM_busy_125 rfl rfl ?_
        refine xg_iload (pc := 126) (i := 5) B dM_busy_126 rfl ?_
        obtain ⟨hq128, h⟩ := xj_rq_i h
        refine xg_ci (pc := 128) (av := [xj_rv v0, .int v3, .int x4]) (st := []) (cy := prog_11_method_38_code) (nLy := 5) (rety := (some .boolean)) (hsy := []) B dM_busy_128 (xj_go_v B dM_busy_128 vwM_258 rfl hq128) (xj_vw_c vwM_258) (xj_vw_i vwM_258) (by decide) (by decide) (by decide) rfl (fun r9 h9 => cM_isExcluded hl _ _ _ _ r9 h9) h (fun x15 A16 eA16 h => ?_)
        refine xg_if_ne (pc := 131) (tgt := 142) B dM_busy_131 (by decide) h (fun c131 h => ?_) (fun c131 h => ?_)
        · refine xg_sub (ls' := [(0, xj_rv v0), (1, .int v1), (2, .int v2), (3, .int v3), (4, .int v4)]) [4, 5, 6, 7, 8] rfl ?_
          exact wM_busy_142 hl B k38 hk38 (fM_busy_49 k38 n) (wM_busy_49 hl B k38 hk38 n) v0 v1 v2 v3 v4 A16 h
        · refine xg_aload_n (pc := 134) (i := 0) (r := v0) B dM_busy_134 rfl rfl ?_
          refine xg_iload (pc := 135) (i := 7) B dM_busy_135 rfl ?_
          refine xg_iload (pc := 137) (i := 8) B dM_busy_137 rfl ?_
          obtain ⟨hq139, h⟩ := xj_rq_v h
          refine xg_cv (pc := 139) (av := [xj_rv v0, .int x9, .int x13]) (st := []) (cy := prog_11_method_46_code) (nLy := 9) (rety := none) (hsy := []) B dM_busy_139 (xj_go_v B dM_busy_139 vwM_279 rfl hq139) (xj_vw_c vwM_279) (xj_vw_i vwM_279) (by decide) (by decide) (by decide) rfl (fun r9 h9 => cM_join hl _ _ _ _ r9 h9) h (fun A17 eA17 h => ?_)
          refine xg_sub (ls' := [(0, xj_rv v0), (1, .int v1), (2, .int v2), (3, .int v3), (4, .int v4)]) [4, 5, 6, 7, 8] rfl ?_
          exact wM_busy_142 hl B k38 hk38 (fM_busy_49 k38 n) (wM_busy_49 hl B k38 hk38 n) v0 v1 v2 v3 v4 A17 h
theorem wM_busy_38 {l : Launch} (hl : l.stackTraces = false) {z : xj_F} (B : xj_B l yM_busy prog_11_method_47_code 9 (some .int) [] 3 z) : ∀ (n : Nat) (v0 : xj_Rf) (v1 : Int32) (v2 : Int32) (v3 : Int32) (A : xj_H), fM_busy_38 n v0 v1 v2 v3 A = some (xf_r z) → xj_W l z 38 [(0, xj_rv v0), (1, .int v1), (2, .int v2), (3, .int v3)] [] A
  | 0, _, _, _, _, _, h => by simp [fM_busy_38] at h
  | n + 1, v0, v1, v2, v3, A, h => by
    rw [fM_busy_38] at h
    refine xg_iload_n (pc := 38) (i := 3) B dM_busy_38 rfl rfl ?_
    refine xg_aload_n (pc := 39) (i := 0) (r := v0) B dM_busy_39 rfl rfl ?_
    refine xg_geti (pc := 40) B dM_busy_40 flM_249 h (fun x1 ex1 h => ?_)
    refine xg_icmp_ge (pc := 43) (tgt := 154) B dM_busy_43 (by decide) h (fun c43 h => ?_) (fun c43 h => ?_)
    · refine xg_aload_n (pc := 154) (i := 0) (r := v0) B dM_busy_154 rfl rfl ?_
      refine xg_geti (pc := 155) B dM_busy_155 flM_268 h (fun x2 ex2 h => ?_)
      exact xg_iret B dM_busy_158 h
    · refine xg_iconst (pc := 46) (v := 0) B dM_busy_46 (by decide) ?_
      refine xg_istore (pc := 47) (i := 4) (ls' := [(4, .int (0 : Int32)), (0, xj_rv v0), (1, .int v1), (2, .int v2), (3, .int v3)]) B dM_busy_47 (by decide) ⟨xj_nq (a := 0) (i := 4) (by decide), xj_nq (a := 1) (i := 4) (by decide), xj_nq (a := 2) (i := 4) (by decide), fun _ => rfl, trivial⟩ rfl ?_
      refine xg_sub (ls' := [(0, xj_rv v0), (1, .int v1), (2, .int v2), (3, .int v3), (4, .int (0 : Int32))]) [1, 2, 3, 4, 0] rfl ?_
      exact wM_busy_49 hl B (fM_busy_38 n) (wM_busy_38 hl B n) xj_fu v0 v1 v2 v3 (0 : Int32) A h
theorem wM_busy_23 {l : Launch} (hl : l.stackTraces = false) {z : xj_F} (B : xj_B l yM_busy prog_11_method_47_code 9 (some .int) [] 3 z) (v0 : xj_Rf) (v1 : Int32) (v2 : Int32) (s0 : Int32) (s1 : xj_Rf) (A : xj_H) (h : fM_busy_23 v0 v1 v2 s0 s1 A = some (xf_r z)) : xj_W l z 23 [(0, xj_rv v0), (1, .int v1), (2, .int v2)] [.int s0, xj_rv s1] A := by
  unfold fM_busy_23 at h
  obtain ⟨hq23, h⟩ := xj_rq_i h
  refine xg_ci (pc := 23) (av := [xj_rv s1, .int s0]) (st := []) (cy := prog_11_method_3_code) (nLy := 2) (rety := (some .boolean)) (hsy := []) B dM_busy_23 (xj_go_v B dM_busy_23 vwM_104 rfl hq23) (xj_vw_c vwM_104) (xj_vw_i vwM_104) (by decide) (by decide) (by decide) rfl (fun r9 h9 => cM_fails hl _ _ _ r9 h9) h (fun x1 A2 eA2 h => ?_)
  refine xg_if_eq (pc := 26) (tgt := 31) B dM_busy_26 (by decide) h (fun c26 h => ?_) (fun c26 h => ?_)
  · refine xg_aload_n (pc := 31) (i := 0) (r := v0) B dM_busy_31 rfl rfl ?_
    refine xg_iconst (pc := 32) (v := 0) B dM_busy_32 (by decide) ?_
    refine xg_puti (pc := 33) B dM_busy_33 (fpM_268 _) h (fun A3 eA3 h => ?_)
    refine xg_iconst (pc := 36) (v := 0) B dM_busy_36 (by decide) ?_
    refine xg_istore_n (pc := 37) (i := 3) (ls' := [(3, .int (0 : Int32)), (0, xj_rv v0), (1, .int v1), (2, .int v2)]) B dM_busy_37 rfl (by decide) ⟨xj_nq (a := 0) (i := 3) (by decide), xj_nq (a := 1) (i := 3) (by decide), fun _ => rfl, trivial⟩ rfl ?_
    refine xg_sub (ls' := [(0, xj_rv v0), (1, .int v1), (2, .int v2), (3, .int (0 : Int32))]) [1, 2, 3, 0] rfl ?_
    exact wM_busy_38 hl B xj_fu v0 v1 v2 (0 : Int32) A3 h
  · refine xg_iconst (pc := 29) (v := 0) B dM_busy_29 (by decide) ?_
    exact xg_iret B dM_busy_30 h
theorem wM_busy_18 {l : Launch} (hl : l.stackTraces = false) {z : xj_F} (B : xj_B l yM_busy prog_11_method_47_code 9 (some .int) [] 3 z) (v0 : xj_Rf) (v1 : Int32) (v2 : Int32) (s0 : xj_Rf) (A : xj_H) (h : fM_busy_18 v0 v1 v2 s0 A = some (xf_r z)) : xj_W l z 18 [(0, xj_rv v0), (1, .int v1), (2, .int v2)] [xj_rv s0] A := by
  unfold fM_busy_18 at h
  refine xg_iconst (pc := 18) (v := 1) B dM_busy_18 (by decide) ?_
  refine xg_goto (pc := 19) (tgt := 23) B dM_busy_19 (by decide) ?_
  exact wM_busy_23 hl B v0 v1 v2 (1 : Int32) s0 A h
theorem wM_busy {l : Launch} (hl : l.stackTraces = false) {z : xj_F} (B : xj_B l yM_busy prog_11_method_47_code 9 (some .int) [] 3 z) (v0 : xj_Rf) (v1 : Int32) (v2 : Int32) (A : xj_H) (h : fM_busy v0 v1 v2 A = some (xf_r z)) : xj_W l z 0 [(0, xj_rv v0), (1, .int v1), (2, .int v2)] [] A := by
  unfold fM_busy at h
  refine xg_aload_n (pc := 0) (i := 0) (r := v0) B dM_busy_0 rfl rfl ?_
  refine xg_iload_n (pc := 1) (i := 2) B dM_busy_1 rfl rfl ?_
  refine xg_iload_n (pc := 2) (i := 1) B dM_busy_2 rfl rfl ?_
  refine xg_icmp_le (pc := 3) (tgt := 18) B dM_busy_3 (by decide) h (fun c3 h => ?_) (fun c3 h => ?_)
  · exact wM_busy_18 hl B v0 v1 v2 v0 A h
  · refine xg_iload_n (pc := 6) (i := 2) B dM_busy_6 rfl rfl ?_
    refine xg_i2l (pc := 7) B dM_busy_7 ?_
    refine xg_iload_n (pc := 8) (i := 1) B dM_busy_8 rfl rfl ?_
    refine xg_i2l (pc := 9) B dM_busy_9 ?_
    refine xg_lsub (pc := 10) B dM_busy_10 ?_
    refine xg_ldc2 (pc := 11) (v := 200000) B dM_busy_11 kM_277 ?_
    refine xg_lcmp (pc := 14) B dM_busy_14 ?_
    refine xg_if_le (pc := 15) (tgt := 22) B dM_busy_15 (by decide) h (fun c15 h => ?_) (fun c15 h => ?_)
    · refine xg_iconst (pc := 22) (v := 0) B dM_busy_22 (by decide) ?_
      exact wM_busy_23 hl B v0 v1 v2 (0 : Int32) v0 A h
    · exact wM_busy_18 hl B v0 v1 v2 v0 A h
theorem cM_busy {l : Launch} (hl : l.stackTraces = false) (v0 : xj_Rf) (v1 : Int32) (v2 : Int32) (A : xj_H) (r : xj_R) (h : fM_busy v0 v1 v2 A = some r) : xj_M l yM_busy prog_11_method_47_code 9 (some .int) [] 3 [xj_rv v0, .int v1, .int v2] A r := by
  refine xj_M.of hl (by decide +kernel) (by simp [lg_sl, xj_ic, xj_lc, xj_rv_cat]) (fun z B hA hr => ?_)
  subst hr
  have hw := wM_busy hl B v0 v1 v2 A h
  simpa [lv_args, xj_ic, xj_lc, xj_rv_cat] using hw
/-! RecurrenceBookModel.span(IZ)I -/
def fM_span_45 (s0 : Int32) (A : xj_H) : Option xj_R :=
  some (.inl (some (.int s0)), A)
def fM_span_18 (v0 : xj_Rf) (v1 : Int32) (v2 : Int32) (s0 : Int32) (s1 : xj_Rf) (A : xj_H) : Option xj_R :=
  xj_bi (xj_rq A s1 7 (fM_fails s1 s0 A)) fun x1 A2 =>
  if x1 = 0 then
    if v2 = 0 then
      (xj_gr A2 v0 7 34).bind fun x3 =>
      (xj_ai A2 x3 0 v1).bind fun x4 =>
      fM_span_45 x4 A2
    else
      (xj_gr A2 v0 7 35).bind fun x5 =>
      (xj_ai A2 x5 0 v1).bind fun x6 =>
      fM_span_45 x6 A2
  else
    some (.inl (some (.int (0 : Int32))), A2)
def fM_span_13 (v0 : xj_Rf) (v1 : Int32) (v2 : Int32) (s0 : xj_Rf) (A : xj_H) : Option xj_R :=
  fM_span_18 v0 v1 v2 (1 : Int32) s0 A
def fM_span (v0 : xj_Rf) (v1 : Int32) (v2 : Int32) (A : xj_H) : Option xj_R :=
  if v1 < 0 then
    fM_span_13 v0 v1 v2 v0 A
  else
    (xj_gi A v0 7 33).bind fun x1 =>
    if v1 < x1 then
      fM_span_18 v0 v1 v2 (0 : Int32) v0 A
    else
      fM_span_13 v0 v1 v2 v0 A
theorem wM_span_45 {l : Launch} (hl : l.stackTraces = false) {z : xj_F} (B : xj_B l yM_span prog_11_method_48_code 3 (some .int) [] 2 z) (s0 : Int32) (A : xj_H) (h : fM_span_45 s0 A = some (xf_r z)) : xj_W l z 45 [] [.int s0] A := by
  unfold fM_span_45 at h
  exact xg_iret B dM_span_45 h
theorem wM_span_18 {l : Launch} (hl : l.stackTraces = false) {z : xj_F} (B : xj_B l yM_span prog_11_method_48_code 3 (some .int) [] 2 z) (v0 : xj_Rf) (v1 : Int32) (v2 : Int32) (s0 : Int32) (s1 : xj_Rf) (A : xj_H) (h : fM_span_18 v0 v1 v2 s0 s1 A = some (xf_r z)) : xj_W l z 18 [(0, xj_rv v0), (1, .int v1), (2, .int v2)] [.int s0, xj_rv s1] A := by
  unfold fM_span_18 at h
  obtain ⟨hq18, h⟩ := xj_rq_i h
  refine xg_ci (pc := 18) (av := [xj_rv s1, .int s0]) (st := []) (cy := prog_11_method_3_code) (nLy := 2) (rety := (some .boolean)) (hsy := []) B dM_span_18 (xj_go_v B dM_span_18 vwM_104 rfl hq18) (xj_vw_c vwM_104) (xj_vw_i vwM_104) (by decide) (by decide) (by decide) rfl (fun r9 h9 => cM_fails hl _ _ _ r9 h9) h (fun x1 A2 eA2 h => ?_)
  refine xg_if_eq (pc := 21) (tgt := 26) B dM_span_21 (by decide) h (fun c21 h => ?_) (fun c21 h => ?_)
  · refine xg_iload_n (pc := 26) (i := 2) B dM_span_26 rfl rfl ?_
    refine xg_if_eq (pc := 27) (tgt := 39) B dM_span_27 (by decide) h (fun c27 h => ?_) (fun c27 h => ?_)
    · refine xg_aload_n (pc := 39) (i := 0) (r := v0) B dM_span_39 rfl rfl ?_
      refine xg_getr (pc := 40) B dM_span_40 flM_50 h (fun x3 ex3 h => ?_)
      refine xg_iload_n (pc := 43) (i := 1) B dM_span_43 rfl rfl ?_
      refine xg_iaload (pc := 44) B dM_span_44 h (fun x4 ex4 h => ?_)
      refine xg_sub (ls' := []) [] rfl ?_
      exact wM_span_45 hl B x4 A2 h
    · refine xg_aload_n (pc := 30) (i := 0) (r := v0) B dM_span_30 rfl rfl ?_
      refine xg_getr (pc := 31) B dM_span_31 flM_53 h (fun x5 ex5 h => ?_)
      refine xg_iload_n (pc := 34) (i := 1) B dM_span_34 rfl rfl ?_
      refine xg_iaload (pc := 35) B dM_span_35 h (fun x6 ex6 h => ?_)
      refine xg_goto (pc := 36) (tgt := 45) B dM_span_36 (by decide) ?_
      refine xg_sub (ls' := []) [] rfl ?_
      exact wM_span_45 hl B x6 A2 h
  · refine xg_iconst (pc := 24) (v := 0) B dM_span_24 (by decide) ?_
    exact xg_iret B dM_span_25 h
theorem wM_span_13 {l : Launch} (hl : l.stackTraces = false) {z : xj_F} (B : xj_B l yM_span prog_11_method_48_code 3 (some .int) [] 2 z) (v0 : xj_Rf) (v1 : Int32) (v2 : Int32) (s0 : xj_Rf) (A : xj_H) (h : fM_span_13 v0 v1 v2 s0 A = some (xf_r z)) : xj_W l z 13 [(0, xj_rv v0), (1, .int v1), (2, .int v2)] [xj_rv s0] A := by
  unfold fM_span_13 at h
  refine xg_iconst (pc := 13) (v := 1) B dM_span_13 (by decide) ?_
  refine xg_goto (pc := 14) (tgt := 18) B dM_span_14 (by decide) ?_
  exact wM_span_18 hl B v0 v1 v2 (1 : Int32) s0 A h
theorem wM_span {l : Launch} (hl : l.stackTraces = false) {z : xj_F} (B : xj_B l yM_span prog_11_method_48_code 3 (some .int) [] 2 z) (v0 : xj_Rf) (v1 : Int32) (v2 : Int32) (A : xj_H) (h : fM_span v0 v1 v2 A = some (xf_r z)) : xj_W l z 0 [(0, xj_rv v0), (1, .int v1), (2, .int v2)] [] A := by
  unfold fM_span at h
  refine xg_aload_n (pc := 0) (i := 0) (r := v0) B dM_span_0 rfl rfl ?_
  refine xg_iload_n (pc := 1) (i := 1) B dM_span_1 rfl rfl ?_
  refine xg_if_lt (pc := 2) (tgt := 13) B dM_span_2 (by decide) h (fun c2 h => ?_) (fun c2 h => ?_)
  · exact wM_span_13 hl B v0 v1 v2 v0 A h
  · refine xg_iload_n (pc := 5) (i := 1) B dM_span_5 rfl rfl ?_
    refine xg_aload_n (pc := 6) (i := 0) (r := v0) B dM_span_6 rfl rfl ?_
    refine xg_geti (pc := 7) B dM_span_7 flM_268 h (fun x1 ex1 h => ?_)
    refine xg_icmp_lt (pc := 10) (tgt := 17) B dM_span_10 (by decide) h (fun c10 h => ?_) (fun c10 h => ?_)
    · refine xg_iconst (pc := 17) (v := 0) B dM_span_17 (by decide) ?_
      exact wM_span_18 hl B v0 v1 v2 (0 : Int32) v0 A h
    · exact wM_span_13 hl B v0 v1 v2 v0 A h
theorem cM_span {l : Launch} (hl : l.stackTraces = false) (v0 : xj_Rf) (v1 : Int32) (v2 : Int32) (A : xj_H) (r : xj_R) (h : fM_span v0 v1 v2 A = some r) : xj_M l yM_span prog_11_method_48_code 3 (some .int) [] 2 [xj_rv v0, .int v1, .int v2] A r := by
  refine xj_M.of hl (by decide +kernel) (by simp [lg_sl, xj_ic, xj_lc, xj_rv_cat]) (fun z B hA hr => ?_)
  subst hr
  have hw := wM_span hl B v0 v1 v2 A h
  simpa [lv_args, xj_ic, xj_lc, xj_rv_cat] using hw
/-! RecurrenceBookModel.clash(II)I -/
def fM_clash_268 (k46 : xj_Rf → Int32 → Int32 → Int32 → Int32 → Int32 → xj_H → Option xj_R) (v0 : xj_Rf) (v1 : Int32) (v2 : Int32) (v3 : Int32) (v4 : Int32) (v5 : Int32) (A : xj_H) : Option xj_R :=
  k46 v0 v1 v2 v3 v4 (v5 + 1) A
def fM_clash_262 (k46 : xj_Rf → Int32 → Int32 → Int32 → Int32 → Int32 → xj_H → Option xj_R) (k94 : xj_Rf → Int32 → Int32 → Int32 → Int32 → Int32 → Int32 → Int32 → Int32 → xj_H → Option xj_R) (v0 : xj_Rf) (v1 : Int32) (v2 : Int32) (v3 : Int32) (v4 : Int32) (v5 : Int32) (v6 : Int32) (v7 : Int32) (v8 : Int32) (A : xj_H) : Option xj_R :=
  k94 v0 v1 v2 v3 v4 v5 v6 v7 (v8 + 1) A
def fM_clash_260 (k46 : xj_Rf → Int32 → Int32 → Int32 → Int32 → Int32 → xj_H → Option xj_R) (k94 : xj_Rf → Int32 → Int32 → Int32 → Int32 → Int32 → Int32 → Int32 → Int32 → xj_H → Option xj_R) (v0 : xj_Rf) (v1 : Int32) (v2 : Int32) (v3 : Int32) (v5 : Int32) (v6 : Int32) (v7 : Int32) (v8 : Int32) (s0 : Int32) (A : xj_H) : Option xj_R :=
  fM_clash_262 k46 k94 v0 v1 v2 v3 s0 v5 v6 v7 v8 A
def fM_clash_255 (k46 : xj_Rf → Int32 → Int32 → Int32 → Int32 → Int32 → xj_H → Option xj_R) (k94 : xj_Rf → Int32 → Int32 → Int32 → Int32 → Int32 → Int32 → Int32 → Int32 → xj_H → Option xj_R) (v0 : xj_Rf) (v1 : Int32) (v2 : Int32) (v3 : Int32) (v5 : Int32) (v6 : Int32) (v7 : Int32) (v8 : Int32) (A : xj_H) : Option xj_R :=
  fM_clash_260 k46 k94 v0 v1 v2 v3 v5 v6 v7 v8 (1 : Int32) A
def fM_clash_244 (k46 : xj_Rf → Int32 → Int32 → Int32 → Int32 → Int32 → xj_H → Option xj_R) (k94 : xj_Rf → Int32 → Int32 → Int32 → Int32 → Int32 → Int32 → Int32 → Int32 → xj_H → Option xj_R) (v0 : xj_Rf) (v1 : Int32) (v2 : Int32) (v4 : Int32) (v5 : Int32) (v6 : Int32) (v7 : Int32) (v8 : Int32) (v12 : Int32) (s0 : Int32) (A : xj_H) : Option xj_R :=
  if ¬ v4 = 0 then
    fM_clash_255 k46 k94 v0 v1 v2 s0 v5 v6 v7 v8 A
  else
    if v12 = 0 then
      fM_clash_260 k46 k94 v0 v1 v2 s0 v5 v6 v7 v8 (0 : Int32) A
    else
      fM_clash_255 k46 k94 v0 v1 v2 s0 v5 v6 v7 v8 A
def fM_clash_243 (k46 : xj_Rf → Int32 → Int32 → Int32 → Int32 → Int32 → xj_H → Option xj_R) (k94 : xj_Rf → Int32 → Int32 → Int32 → Int32 → Int32 → Int32 → Int32 → Int32 → xj_H → Option xj_R) (v0 : xj_Rf) (v1 : Int32) (v2 : Int32) (v3 : Int32) (v4 : Int32) (v5 : Int32) (v6 : Int32) (v7 : Int32) (v8 : Int32) (v12 : Int32) (A : xj_H) : Option xj_R :=
  fM_clash_244 k46 k94 v0 v1 v2 v4 v5 v6 v7 v8 v12 v3 A
def fM_clash_238 (k46 : xj_Rf → Int32 → Int32 → Int32 → Int32 → Int32 → xj_H → Option xj_R) (k94 : xj_Rf → Int32 → Int32 → Int32 → Int32 → Int32 → Int32 → Int32 → Int32 → xj_H → Option xj_R) (v0 : xj_Rf) (v1 : Int32) (v2 : Int32) (v4 : Int32) (v5 : Int32) (v6 : Int32) (v7 : Int32) (v8 : Int32) (v11 : Int32) (v12 : Int32) (A : xj_H) : Option xj_R :=
  fM_clash_244 k46 k94 v0 v1 v2 v4 v5 v6 v7 v8 v12 v11 A
def fM_clash_220 (k46 : xj_Rf → Int32 → Int32 → Int32 → Int32 → Int32 → xj_H → Option xj_R) (k94 : xj_Rf → Int32 → Int32 → Int32 → Int32 → Int32 → Int32 → Int32 → Int32 → xj_H → Option xj_R) (v0 : xj_Rf) (v1 : Int32) (v2 : Int32) (v3 : Int32) (v4 : Int32) (v5 : Int32) (v6 : Int32) (v7 : Int32) (v8 : Int32) (v11 : Int32) (s0 : Int32) (A : xj_H) : Option xj_R :=
  if s0 = 0 then
    fM_clash_243 k46 k94 v0 v1 v2 v3 v4 v5 v6 v7 v8 s0 A
  else
    if v4 = 0 then
      fM_clash_238 k46 k94 v0 v1 v2 v4 v5 v6 v7 v8 v11 s0 A
    else
      if v3 ≤ v11 then
        fM_clash_243 k46 k94 v0 v1 v2 v3 v4 v5 v6 v7 v8 s0 A
      else
        fM_clash_238 k46 k94 v0 v1 v2 v4 v5 v6 v7 v8 v11 s0 A
def fM_clash_94 (k46 : xj_Rf → Int32 → Int32 → Int32 → Int32 → Int32 → xj_H → Option xj_R) : Nat → xj_Rf → Int32 → Int32 → Int32 → Int32 → Int32 → Int32 → Int32 → Int32 → xj_H → Option xj_R
  | 0, _, _, _, _, _, _, _, _, _, _ => none
  | n + 1, v0, v1, v2, v3, v4, v5, v6, v7, v8, A =>
    (xj_gr A v0 7 11).bind fun x1 =>
    (xj_ai A x1 0 v2).bind fun x2 =>
    if x2 ≤ v8 then
      fM_clash_268 k46 v0 v1 v2 v3 v4 v5 A
    else
      xj_bi (xj_rq A v0 7 (fM_isExcluded v0 v1 v6 A)) fun x3 A4 =>
      if ¬ x3 = 0 then
        fM_clash_268 k46 v0 v1 v2 v3 v4 v5 A4
      else
        (xj_gr A4 v0 7 10).bind fun x5 =>
        (xj_ai A4 x5 0 (((200 : Int32) * v2) + v8)).bind fun x6 =>
        if (v6 + (4 : Int32)) < x6 then
          fM_clash_262 k46 (fM_clash_94 k46 n) v0 v1 v2 v3 v4 v5 v6 v7 v8 A4
        else
          if x6 < (v6 - (4 : Int32)) then
            fM_clash_262 k46 (fM_clash_94 k46 n) v0 v1 v2 v3 v4 v5 v6 v7 v8 A4
          else
            xj_bi (xj_rq A4 v0 7 (fM_isExcluded v0 v2 x6 A4)) fun x7 A8 =>
            if x7 = 0 then
              (xj_gr A8 v0 7 8).bind fun x9 =>
              (xj_ai A8 x9 0 v2).bind fun x10 =>
              xj_bi (xj_rq A8 v0 7 (fM_momentOf v0 (((1440 : Int32) * x6) + x10) A8)) fun x11 A12 =>
              xj_bi (fM_greatest v7 x11 A12) fun x13 A14 =>
              (xj_gr A14 v0 7 9).bind fun x15 =>
              (xj_ai A14 x15 0 v1).bind fun x16 =>
              (xj_gr A14 v0 7 9).bind fun x17 =>
              (xj_ai A14 x17 0 v2).bind fun x18 =>
              xj_bi (fM_least (v7 + x16) (x11 + x18) A14) fun x19 A20 =>
              if x19 ≤ x13 then
                fM_clash_220 k46 (fM_clash_94 k46 n) v0 v1 v2 v3 v4 v5 v6 v7 v8 x13 (0 : Int32) A20
              else
                fM_clash_220 k46 (fM_clash_94 k46 n) v0 v1 v2 v3 v4 v5 v6 v7 v8 x13 (1 : Int32) A20
            else
              fM_clash_262 k46 (fM_clash_94 k46 n) v0 v1 v2 v3 v4 v5 v6 v7 v8 A8
def fM_clash_46 : Nat → xj_Rf → Int32 → Int32 → Int32 → Int32 → Int32 → xj_H → Option xj_R
  | 0, _, _, _, _, _, _, _ => none
  | n + 1, v0, v1, v2, v3, v4, v5, A =>
    (xj_gr A v0 7 11).bind fun x1 =>
    (xj_ai A x1 0 v1).bind fun x2 =>
    if x2 ≤ v5 then
      some (.inl (some (.int v3)), A)
    else
      (xj_gr A v0 7 10).bind fun x3 =>
      (xj_ai A x3 0 (((200 : Int32) * v1) + v5)).bind fun x4 =>
      (xj_gr A v0 7 8).bind fun x5 =>
      (xj_ai A x5 0 v1).bind fun x6 =>
      xj_bi (xj_rq A v0 7 (fM_momentOf v0 (((1440 : Int32) * x4) + x6) A)) fun x7 A8 =>
      fM_clash_94 (fM_clash_46 n) xj_fu v0 v1 v2 v3 v4 v5 x4 x7 (0 : Int32) A8
def fM_clash_30 (v0 : xj_Rf) (v1 : Int32) (v2 : Int32) (s0 : Int32) (s1 : xj_Rf) (A : xj_H) : Option xj_R :=
  xj_bi (xj_rq A s1 7 (fM_fails s1 s0 A)) fun x1 A2 =>
  if x1 = 0 then
    fM_clash_46 xj_fu v0 v1 v2 (-1 : Int32) (0 : Int32) (0 : Int32) A2
  else
    some (.inl (some (.int (0 : Int32))), A2)
def fM_clash_25 (v0 : xj_Rf) (v1 : Int32) (v2 : Int32) (s0 : xj_Rf) (A : xj_H) : Option xj_R :=
  fM_clash_30 v0 v1 v2 (1 : Int32) s0 A
def fM_clash (v0 : xj_Rf) (v1 : Int32) (v2 : Int32) (A : xj_H) : Option xj_R :=
  if v1 < 0 then
    fM_clash_25 v0 v1 v2 v0 A
  else
    (xj_gi A v0 7 7).bind fun x1 =>
    if x1 ≤ v1 then
      fM_clash_25 v0 v1 v2 v0 A
    else
      if v2 < 0 then
        fM_clash_25 v0 v1 v2 v0 A
      else
        (xj_gi A v0 7 7).bind fun x2 =>
        if v2 < x2 then
          fM_clash_30 v0 v1 v2 (0 : Int32) v0 A
        else
          fM_clash_25 v0 v1 v2 v0 A
theorem wM_clash_268 {l : Launch} (hl : l.stackTraces = false) {z : xj_F} (B : xj_B l yM_clash prog_11_method_49_code 13 (some .int) [] 3 z) (k46 : xj_Rf → Int32 → Int32 → Int32 → Int32 → Int32 → xj_H → Option xj_R) (hk46 : ∀ (v0 : xj_Rf) (v1 : Int32) (v2 : Int32) (v3 : Int32) (v4 : Int32) (v5 : Int32) (A : xj_H), k46 v0 v1 v2 v3 v4 v5 A = some (xf_r z) → xj_W l z 46 [(0, xj_rv v0), (1, .int v1), (2, .int v2), (3, .int v3), (4, .int v4), (5, .int v5)] [] A) (v0 : xj_Rf) (v1 : Int32) (v2 : Int32) (v3 : Int32) (v4 : Int32) (v5 : Int32) (A : xj_H) (h : fM_clash_268 k46 v0 v1 v2 v3 v4 v5 A = some (xf_r z)) : xj_W l z 268 [(0, xj_rv v0), (1, .int v1), (2, .int v2), (3, .int v3), (4, .int v4), (5, .int v5)] [] A := by
  unfold fM_clash_268 at h
  refine xg_iinc (pc := 268) (i := 5) (v := (v5 + 1)) (ls' := [(5, .int (v5 + 1)), (0, xj_rv v0), (1, .int v1), (2, .int v2), (3, .int v3), (4, .int v4)]) B dM_clash_268 rfl (xj_inc_1 _) (by decide) ⟨xj_nq (a := 0) (i := 5) (by decide), xj_nq (a := 1) (i := 5) (by decide), xj_nq (a := 2) (i := 5) (by decide), xj_nq (a := 3) (i := 5) (by decide), fun _ => rfl, xj_nq (a := 5) (i := 5) (by decide), trivial⟩ rfl ?_
  refine xg_goto (pc := 271) (tgt := 46) B dM_clash_271 (by decide) ?_
  refine xg_sub (ls' := [(0, xj_rv v0), (1, .int v1), (2, .int v2), (3, .int v3), (4, .int v4), (5, .int (v5 + 1))]) [1, 2, 3, 4, 5, 0] rfl ?_
  exact hk46 v0 v1 v2 v3 v4 (v5 + 1) A h
theorem wM_clash_262 {l : Launch} (hl : l.stackTraces = false) {z : xj_F} (B : xj_B l yM_clash prog_11_method_49_code 13 (some .int) [] 3 z) (k46 : xj_Rf → Int32 → Int32 → Int32 → Int32 → Int32 → xj_H → Option xj_R) (hk46 : ∀ (v0 : xj_Rf) (v1 : Int32) (v2 : Int32) (v3 : Int32) (v4 : Int32) (v5 : Int32) (A : xj_H), k46 v0 v1 v2 v3 v4 v5 A = some (xf_r z) → xj_W l z 46 [(0, xj_rv v0), (1, .int v1), (2, .int v2), (3, .int v3), (4, .int v4), (5, .int v5)] [] A) (k94 : xj_Rf → Int32 → Int32 → Int32 → Int32 → Int32 → Int32 → Int32 → Int32 → xj_H → Option xj_R) (hk94 : ∀ (v0 : xj_Rf) (v1 : Int32) (v2 : Int32) (v3 : Int32) (v4 : Int32) (v5 : Int32) (v6 : Int32) (v7 : Int32) (v8 : Int32) (A : xj_H), k94 v0 v1 v2 v3 v4 v5 v6 v7 v8 A = some (xf_r z) → xj_W l z 94 [(0, xj_rv v0), (1, .int v1), (2, .int v2), (3, .int v3), (4, .int v4), (5, .int v5), (6, .int v6), (7, .int v7), (8, .int v8)] [] A) (v0 : xj_Rf) (v1 : Int32) (v2 : Int32) (v3 : Int32) (v4 : Int32) (v5 : Int32) (v6 : Int32) (v7 : Int32) (v8 : Int32) (A : xj_H) (h : fM_clash_262 k46 k94 v0 v1 v2 v3 v4 v5 v6 v7 v8 A = some (xf_r z)) : xj_W l z 262 [(0, xj_rv v0), (1, .int v1), (2, .int v2), (3, .int v3), (4, .int v4), (5, .int v5), (6, .int v6), (7, .int v7), (8, .int v8)] [] A := by
  unfold fM_clash_262 at h
  refine xg_iinc (pc := 262) (i := 8) (v := (v8 + 1)) (ls' := [(8, .int (v8 + 1)), (0, xj_rv v0), (1, .int v1), (2, .int v2), (3, .int v3), (4, .int v4), (5, .int v5), (6, .int v6), (7, .int v7)]) B dM_clash_262 rfl (xj_inc_1 _) (by decide) ⟨xj_nq (a := 0) (i := 8) (by decide), xj_nq (a := 1) (i := 8) (by decide), xj_nq (a := 2) (i := 8) (by decide), xj_nq (a := 3) (i := 8) (by decide), xj_nq (a := 4) (i := 8) (by decide), xj_nq (a := 5) (i := 8) (by decide), xj_nq (a := 6) (i := 8) (by decide), fun _ => rfl, xj_nq (a := 8) (i := 8) (by decide), trivial⟩ rfl ?_
  refine xg_goto (pc := 265) (tgt := 94) B dM_clash_265 (by decide) ?_
  refine xg_sub (ls' := [(0, xj_rv v0), (1, .int v1), (2, .int v2), (3, .int v3), (4, .int v4), (5, .int v5), (6, .int v6), (7, .int v7), (8, .int (v8 + 1))]) [1, 2, 3, 4, 5, 6, 7, 8, 0] rfl ?_
  exact hk94 v0 v1 v2 v3 v4 v5 v6 v7 (v8 + 1) A h
theorem wM_clash_260 {l : Launch} (hl : l.stackTraces = false) {z : xj_F} (B : xj_B l yM_clash prog_11_method_49_code 13 (some .int) [] 3 z) (k46 : xj_Rf → Int32 → Int32 → Int32 → Int32 → Int32 → xj_H → Option xj_R) (hk46 : ∀ (v0 : xj_Rf) (v1 : Int32) (v2 : Int32) (v3 : Int32) (v4 : Int32) (v5 : Int32) (A : xj_H), k46 v0 v1 v2 v3 v4 v5 A = some (xf_r z) → xj_W l z 46 [(0, xj_rv v0), (1, .int v1), (2, .int v2), (3, .int v3), (4, .int v4), (5, .int v5)] [] A) (k94 : xj_Rf → Int32 → Int32 → Int32 → Int32 → Int32 → Int32 → Int32 → Int32 → xj_H → Option xj_R) (hk94 : ∀ (v0 : xj_Rf) (v1 : Int32) (v2 : Int32) (v3 : Int32) (v4 : Int32) (v5 : Int32) (v6 : Int32) (v7 : Int32) (v8 : Int32) (A : xj_H), k94 v0 v1 v2 v3 v4 v5 v6 v7 v8 A = some (xf_r z) → xj_W l z 94 [(0, xj_rv v0), (1, .int v1), (2, .int v2), (3, .int v3), (4, .int v4), (5, .int v5), (6, .int v6), (7, .int v7), (8, .int v8)] [] A) (v0 : xj_Rf) (v1 : Int32) (v2 : Int32) (v3 : Int32) (v5 : Int32) (v6 : Int32) (v7 : Int32) (v8 : Int32) (s0 : Int32) (A : xj_H) (h : fM_clash_260 k46 k94 v0 v1 v2 v3 v5 v6 v7 v8 s0 A = some (xf_r z)) : xj_W l z 260 [(0, xj_rv v0), (1, .int v1), (2, .int v2), (3, .int v3), (5, .int v5), (6, .int v6), (7, .int v7), (8, .int v8)] [.int s0] A := by
  unfold fM_clash_260 at h
  refine xg_istore (pc := 260) (i := 4) (ls' := [(4, .int s0), (0, xj_rv v0), (1, .int v1), (2, .int v2), (3, .int v3), (5, .int v5), (6, .int v6), (7, .int v7), (8, .int v8)]) B dM_clash_260 (by decide) ⟨xj_nq (a := 0) (i := 4) (by decide), xj_nq (a := 1) (i := 4) (by decide), xj_nq (a := 2) (i := 4) (by decide), fun _ => rfl, xj_nq (a := 5) (i := 4) (by decide), xj_nq (a := 6) (i := 4) (by decide), xj_nq (a := 7) (i := 4) (by decide), xj_nq (a := 8) (i := 4) (by decide), trivial⟩ rfl ?_
  refine xg_sub (ls' := [(0, xj_rv v0), (1, .int v1), (2, .int v2), (3, .int v3), (4, .int s0), (5, .int v5), (6, .int v6), (7, .int v7), (8, .int v8)]) [1, 2, 3, 4, 0, 5, 6, 7, 8] rfl ?_
  exact wM_clash_262 hl B k46 hk46 k94 hk94 v0 v1 v2 v3 s0 v5 v6 v7 v8 A h
theorem wM_clash_255 {l : Launch} (hl : l.stackTraces = false) {z : xj_F} (B : xj_B l yM_clash prog_11_method_49_code 13 (some .int) [] 3 z) (k46 : xj_Rf → Int32 → Int32 → Int32 → Int32 → Int32 → xj_H → Option xj_R) (hk46 : ∀ (v0 : xj_Rf) (v1 : Int32) (v2 : Int32) (v3 : Int32) (v4 : Int32) (v5 : Int32) (A : xj_H), k46 v0 v1 v2 v3 v4 v5 A = some (xf_r z) → xj_W l z 46 [(0, xj_rv v0), (1, .int v1), (2, .int v2), (3, .int v3), (4, .int v4), (5, .int v5)] [] A) (k94 : xj_Rf → Int32 → Int32 → Int32 → Int32 → Int32 → Int32 → Int32 → Int32 → xj_H → Option xj_R) (hk94 : ∀ (v0 : xj_Rf) (v1 : Int32) (v2 : Int32) (v3 : Int32) (v4 : Int32) (v5 : Int32) (v6 : Int32) (v7 : Int32) (v8 : Int32) (A : xj_H), k94 v0 v1 v2 v3 v4 v5 v6 v7 v8 A = some (xf_r z) → xj_W l z 94 [(0, xj_rv v0), (1, .int v1), (2, .int v2), (3, .int v3), (4, .int v4), (5, .int v5), (6, .int v6), (7, .int v7), (8, .int v8)] [] A) (v0 : xj_Rf) (v1 : Int32) (v2 : Int32) (v3 : Int32) (v5 : Int32) (v6 : Int32) (v7 : Int32) (v8 : Int32) (A : xj_H) (h : fM_clash_255 k46 k94 v0 v1 v2 v3 v5 v6 v7 v8 A = some (xf_r z)) : xj_W l z 255 [(0, xj_rv v0), (1, .int v1), (2, .int v2), (3, .int v3), (5, .int v5), (6, .int v6), (7, .int v7), (8, .int v8)] [] A := by
  unfold fM_clash_255 at h
  refine xg_iconst (pc := 255) (v := 1) B dM_clash_255 (by decide) ?_
  refine xg_goto (pc := 256) (tgt := 260) B dM_clash_256 (by decide) ?_
  exact wM_clash_260 hl B k46 hk46 k94 hk94 v0 v1 v2 v3 v5 v6 v7 v8 (1 : Int32) A h
theorem wM_clash_244 {l : Launch} (hl : l.stackTraces = false) {z : xj_F} (B : xj_B l yM_clash prog_11_method_49_code 13 (some .int) [] 3 z) (k46 : xj_Rf → Int32 → Int32 → Int32 → Int32 → Int32 → xj_H → Option xj_R) (hk46 : ∀ (v0 : xj_Rf) (v1 : Int32) (v2 : Int32) (v3 : Int32) (v4 : Int32) (v5 : Int32) (A : xj_H), k46 v0 v1 v2 v3 v4 v5 A = some (xf_r z) → xj_W l z 46 [(0, xj_rv v0), (1, .int v1), (2, .int v2), (3, .int v3), (4, .int v4), (5, .int v5)] [] A) (k94 : xj_Rf → Int32 → Int32 → Int32 → Int32 → Int32 → Int32 → Int32 → Int32 → xj_H → Option xj_R) (hk94 : ∀ (v0 : xj_Rf) (v1 : Int32) (v2 : Int32) (v3 : Int32) (v4 : Int32) (v5 : Int32) (v6 : Int32) (v7 : Int32) (v8 : Int32) (A : xj_H), k94 v0 v1 v2 v3 v4 v5 v6 v7 v8 A = some (xf_r z) → xj_W l z 94 [(0, xj_rv v0), (1, .int v1), (2, .int v2), (3, .int v3), (4, .int v4), (5, .int v5), (6, .int v6), (7, .int v7), (8, .int v8)] [] A) (v0 : xj_Rf) (v1 : Int32) (v2 : Int32) (v4 : Int32) (v5 : Int32) (v6 : Int32) (v7 : Int32) (v8 : Int32) (v12 : Int32) (s0 : Int32) (A : xj_H) (h : fM_clash_244 k46 k94 v0 v1 v2 v4 v5 v6 v7 v8 v12 s0 A = some (xf_r z)) : xj_W l z 244 [(0, xj_rv v0), (1, .int v1), (2, .int v2), (4, .int v4), (5, .int v5), (6, .int v6), (7, .int v7), (8, .int v8), (12, .int v12)] [.int s0] A := by
  unfold fM_clash_244 at h
  refine xg_istore_n (pc := 244) (i := 3) (ls' := [(3, .int s0), (0, xj_rv v0), (1, .int v1), (2, .int v2), (4, .int v4), (5, .int v5), (6, .int v6), (7, .int v7), (8, .int v8), (12, .int v12)]) B dM_clash_244 rfl (by decide) ⟨xj_nq (a := 0) (i := 3) (by decide), xj_nq (a := 1) (i := 3) (by decide), fun _ => rfl, xj_nq (a := 4) (i := 3) (by decide), xj_nq (a := 5) (i := 3) (by decide), xj_nq (a := 6) (i := 3) (by decide), xj_nq (a := 7) (i := 3) (by decide), xj_nq (a := 8) (i := 3) (by decide), xj_nq (a := 12) (i := 3) (by decide), trivial⟩ rfl ?_
  refine xg_iload (pc := 245) (i := 4) B dM_clash_245 rfl ?_
  refine xg_if_ne (pc := 247) (tgt := 255) B dM_clash_247 (by decide) h (fun c247 h => ?_) (fun c247 h => ?_)
  · refine xg_sub (ls' := [(0, xj_rv v0), (1, .int v1), (2, .int v2), (3, .int s0), (5, .int v5), (6, .int v6), (7, .int v7), (8, .int v8)]) [1, 2, 3, 0, 5, 6, 7, 8] rfl ?_
    exact wM_clash_255 hl B k46 hk46 k94 hk94 v0 v1 v2 s0 v5 v6 v7 v8 A h
  · refine xg_iload (pc := 250) (i := 12) B dM_clash_250 rfl ?_
    refine xg_if_eq (pc := 252) (tgt := 259) B dM_clash_252 (by decide) h (fun c252 h => ?_) (fun c252 h => ?_)
    · refine xg_iconst (pc := 259) (v := 0) B dM_clash_259 (by decide) ?_
      refine xg_sub (ls' := [(0, xj_rv v0), (1, .int v1), (2, .int v2), (3, .int s0), (5, .int v5), (6, .int v6), (7, .int v7), (8, .int v8)]) [1, 2, 3, 0, 5, 6, 7, 8] rfl ?_
      exact wM_clash_260 hl B k46 hk46 k94 hk94 v0 v1 v2 s0 v5 v6 v7 v8 (0 : Int32) A h
    · refine xg_sub (ls' := [(0, xj_rv v0), (1, .int v1), (2, .int v2), (3, .int s0), (5, .int v5), (6, .int v6), (7, .int v7), (8, .int v8)]) [1, 2, 3, 0, 5, 6, 7, 8] rfl ?_
      exact wM_clash_255 hl B k46 hk46 k94 hk94 v0 v1 v2 s0 v5 v6 v7 v8 A h
theorem wM_clash_243 {l : Launch} (hl : l.stackTraces = false) {z : xj_F} (B : xj_B l yM_clash prog_11_method_49_code 13 (some .int) [] 3 z) (k46 : xj_Rf → Int32 → Int32 → Int32 → Int32 → Int32 → xj_H → Option xj_R) (hk46 : ∀ (v0 : xj_Rf) (v1 : Int32) (v2 : Int32) (v3 : Int32) (v4 : Int32) (v5 : Int32) (A : xj_H), k46 v0 v1 v2 v3 v4 v5 A = some (xf_r z) → xj_W l z 46 [(0, xj_rv v0), (1, .int v1), (2, .int v2), (3, .int v3), (4, .int v4), (5, .int v5)] [] A) (k94 : xj_Rf → Int32 → Int32 → Int32 → Int32 → Int32 → Int32 → Int32 → Int32 → xj_H → Option xj_R) (hk94 : ∀ (v0 : xj_Rf) (v1 : Int32) (v2 : Int32) (v3 : Int32) (v4 : Int32) (v5 : Int32) (v6 : Int32) (v7 : Int32) (v8 : Int32) (A : xj_H), k94 v0 v1 v2 v3 v4 v5 v6 v7 v8 A = some (xf_r z) → xj_W l z 94 [(0, xj_rv v0), (1, .int v1), (2, .int v2), (3, .int v3), (4, .int v4), (5, .int v5), (6, .int v6), (7, .int v7), (8, .int v8)] [] A) (v0 : xj_Rf) (v1 : Int32) (v2 : Int32) (v3 : Int32) (v4 : Int32) (v5 : Int32) (v6 : Int32) (v7 : Int32) (v8 : Int32) (v12 : Int32) (A : xj_H) (h : fM_clash_243 k46 k94 v0 v1 v2 v3 v4 v5 v6 v7 v8 v12 A = some (xf_r z)) : xj_W l z 243 [(0, xj_rv v0), (1, .int v1), (2, .int v2), (3, .int v3), (4, .int v4), (5, .int v5), (6, .int v6), (7, .int v7), (8, .int v8), (12, .int v12)] [] A := by
  unfold fM_clash_243 at h
  refine xg_iload_n (pc := 243) (i := 3) B dM_clash_243 rfl rfl ?_
  refine xg_sub (ls' := [(0, xj_rv v0), (1, .int v1), (2, .int v2), (4, .int v4), (5, .int v5), (6, .int v6), (7, .int v7), (8, .int v8), (12, .int v12)]) [0, 1, 2, 4, 5, 6, 7, 8, 9] rfl ?_
  exact wM_clash_244 hl B k46 hk46 k94 hk94 v0 v1 v2 v4 v5 v6 v7 v8 v12 v3 A h
theorem wM_clash_238 {l : Launch} (hl : l.stackTraces = false) {z : xj_F} (B : xj_B l yM_clash prog_11_method_49_code 13 (some .int) [] 3 z) (k46 : xj_Rf → Int32 → Int32 → Int32 → Int32 → Int32 → xj_H → Option xj_R) (hk46 : ∀ (v0 : xj_Rf) (v1 : Int32) (v2 : Int32) (v3 : Int32) (v4 : Int32) (v5 : Int32) (A : xj_H), k46 v0 v1 v2 v3 v4 v5 A = some (xf_r z) → xj_W l z 46 [(0, xj_rv v0), (1, .int v1), (2, .int v2), (3, .int v3), (4, .int v4), (5, .int v5)] [] A) (k94 : xj_Rf → Int32 → Int32 → Int32 → Int32 → Int32 → Int32 → Int32 → Int32 → xj_H → Option xj_R) (hk94 : ∀ (v0 : xj_Rf) (v1 : Int32) (v2 : Int32) (v3 : Int32) (v4 : Int32) (v5 : Int32) (v6 : Int32) (v7 : Int32) (v8 : Int32) (A : xj_H), k94 v0 v1 v2 v3 v4 v5 v6 v7 v8 A = some (xf_r z) → xj_W l z 94 [(0, xj_rv v0), (1, .int v1), (2, .int v2), (3, .int v3), (4, .int v4), (5, .int v5), (6, .int v6), (7, .int v7), (8, .int v8)] [] A) (v0 : xj_Rf) (v1 : Int32) (v2 : Int32) (v4 : Int32) (v5 : Int32) (v6 : Int32) (v7 : Int32) (v8 : Int32) (v11 : Int32) (v12 : Int32) (A : xj_H) (h : fM_clash_238 k46 k94 v0 v1 v2 v4 v5 v6 v7 v8 v11 v12 A = some (xf_r z)) : xj_W l z 238 [(0, xj_rv v0), (1, .int v1), (2, .int v2), (4, .int v4), (5, .int v5), (6, .int v6), (7, .int v7), (8, .int v8), (11, .int v11), (12, .int v12)] [] A := by
  unfold fM_clash_238 at h
  refine xg_iload (pc := 238) (i := 11) B dM_clash_238 rfl ?_
  refine xg_goto (pc := 240) (tgt := 244) B dM_clash_240 (by decide) ?_
  refine xg_sub (ls' := [(0, xj_rv v0), (1, .int v1), (2, .int v2), (4, .int v4), (5, .int v5), (6, .int v6), (7, .int v7), (8, .int v8), (12, .int v12)]) [0, 1, 2, 3, 4, 5, 6, 7, 9] rfl ?_
  exact wM_clash_244 hl B k46 hk46 k94 hk94 v0 v1 v2 v4 v5 v6 v7 v8 v12 v11 A h
theorem wM_clash_220 {l : Launch} (hl : l.stackTraces = false) {z : xj_F} (B : xj_B l yM_clash prog_11_method_49_code 13 (some .int) [] 3 z) (k46 : xj_Rf → Int32 → Int32 → Int32 → Int32 → Int32 → xj_H → Option xj_R) (hk46 : ∀ (v0 : xj_Rf) (v1 : Int32) (v2 : Int32) (v3 : Int32) (v4 : Int32) (v5 : Int32) (A : xj_H), k46 v0 v1 v2 v3 v4 v5 A = some (xf_r z) → xj_W l z 46 [(0, xj_rv v0), (1, .int v1), (2, .int v2), (3, .int v3), (4, .int v4), (5, .int v5)] [] A) (k94 : xj_Rf → Int32 → Int32 → Int32 → Int32 → Int32 → Int32 → Int32 → Int32 → xj_H → Option xj_R) (hk94 : ∀ (v0 : xj_Rf) (v1 : Int32) (v2 : Int32) (v3 : Int32) (v4 : Int32) (v5 : Int32) (v6 : Int32) (v7 : Int32) (v8 : Int32) (A : xj_H), k94 v0 v1 v2 v3 v4 v5 v6 v7 v8 A = some (xf_r z) → xj_W l z 94 [(0, xj_rv v0), (1, .int v1), (2, .int v2), (3, .int v3), (4, .int v4), (5, .int v5), (6, .int v6), (7, .int v7), (8, .int v8)] [] A) (v0 : xj_Rf) (v1 : Int32) (v2 : Int32) (v3 : Int32) (v4 : Int32) (v5 : Int32) (v6 : Int32) (v7 : Int32) (v8 : Int32) (v11 : Int32) (s0 : Int32) (A : xj_H) (h : fM_clash_220 k46 k94 v0 v1 v2 v3 v4 v5 v6 v7 v8 v11 s0 A = some (xf_r z)) : xj_W l z 220 [(0, xj_rv v0), (1, .int v1), (2, .int v2), (3, .int v3), (4, .int v4), (5, .int v5), (6, .int v6), (7, .int v7), (8, .int v8), (11, .int v11)] [.int s0] A := by
  unfold fM_clash_220 at h
  refine xg_istore (pc := 220) (i := 12) (ls' := [(12, .int s0), (0, xj_rv v0), (1, .int v1), (2, .int v2), (3, .int v3), (4, .int v4), (5, .int v5), (6, .int v6), (7, .int v7), (8, .int v8), (11, .int v11)]) B dM_clash_220 (by decide) ⟨xj_nq (a := 0) (i := 12) (by decide), xj_nq (a := 1) (i := 12) (by decide), xj_nq (a := 2) (i := 12) (by decide), xj_nq (a := 3) (i := 12) (by decide), xj_nq (a := 4) (i := 12) (by decide), xj_nq (a := 5) (i := 12) (by decide), xj_nq (a := 6) (i := 12) (by decide), xj_nq (a := 7) (i := 12) (by decide), xj_nq (a := 8) (i := 12) (by decide), fun _ => rfl, trivial⟩ rfl ?_
  refine xg_iload (pc := 222) (i := 12) B dM_clash_222 rfl ?_
  refine xg_if_eq (pc := 224) (tgt := 243) B dM_clash_224 (by decide) h (fun c224 h => ?_) (fun c224 h => ?_)
  · refine xg_sub (ls' := [(0, xj_rv v0), (1, .int v1), (2, .int v2), (3, .int v3), (4, .int v4), (5, .int v5), (6, .int v6), (7, .int v7), (8, .int v8), (12, .int s0)]) [1, 2, 3, 4, 5, 6, 7, 8, 9, 0] rfl ?_
    exact wM_clash_243 hl B k46 hk46 k94 hk94 v0 v1 v2 v3 v4 v5 v6 v7 v8 s0 A h
  · refine xg_iload (pc := 227) (i := 4) B dM_clash_227 rfl ?_
    refine xg_if_eq (pc := 229) (tgt := 238) B dM_clash_229 (by decide) h (fun c229 h => ?_) (fun c229 h => ?_)
    · refine xg_sub (ls' := [(0, xj_rv v0), (1, .int v1), (2, .int v2), (4, .int v4), (5, .int v5), (6, .int v6), (7, .int v7), (8, .int v8), (11, .int v11), (12, .int s0)]) [1, 2, 3, 5, 6, 7, 8, 9, 10, 0] rfl ?_
      exact wM_clash_238 hl B k46 hk46 k94 hk94 v0 v1 v2 v4 v5 v6 v7 v8 v11 s0 A h
    · refine xg_iload (pc := 232) (i := 11) B dM_clash_232 rfl ?_
      refine xg_iload_n (pc := 234) (i := 3) B dM_clash_234 rfl rfl ?_
      refine xg_icmp_ge (pc := 235) (tgt := 243) B dM_clash_235 (by decide) h (fun c235 h => ?_) (fun c235 h => ?_)
      · refine xg_sub (ls' := [(0, xj_rv v0), (1, .int v1), (2, .int v2), (3, .int v3), (4, .int v4), (5, .int v5), (6, .int v6), (7, .int v7), (8, .int v8), (12, .int s0)]) [1, 2, 3, 4, 5, 6, 7, 8, 9, 0] rfl ?_
        exact wM_clash_243 hl B k46 hk46 k94 hk94 v0 v1 v2 v3 v4 v5 v6 v7 v8 s0 A h
      · refine xg_sub (ls' := [(0, xj_rv v0), (1, .int v1), (2, .int v2), (4, .int v4), (5, .int v5), (6, .int v6), (7, .int v7), (8, .int v8), (11, .int v11), (12, .int s0)]) [1, 2, 3, 5, 6, 7, 8, 9, 10, 0] rfl ?_
        exact wM_clash_238 hl B k46 hk46 k94 hk94 v0 v1 v2 v4 v5 v6 v7 v8 v11 s0 A h
theorem wM_clash_94 {l : Launch} (hl : l.stackTraces = false) {z : xj_F} (B : xj_B l yM_clash prog_11_method_49_code 13 (some .int) [] 3 z) (k46 : xj_Rf → Int32 → Int32 → Int32 → Int32 → Int32 → xj_H → Option xj_R) (hk46 : ∀ (v0 : xj_Rf) (v1 : Int32) (v2 : Int32) (v3 : Int32) (v4 : Int32) (v5 : Int32) (A : xj_H), k46 v0 v1 v2 v3 v4 v5 A = some (xf_r z) → xj_W l z 46 [(0, xj_rv v0), (1, .int v1), (2, .int v2), (3, .int v3), (4, .int v4), (5, .int v5)] [] A) : ∀ (n : Nat) (v0 : xj_Rf) (v1 : Int32) (v2 : Int32) (v3 : Int32) (v4 : Int32) (v5 : Int32) (v6 : Int32) (v7 : Int32) (v8 : Int32) (A : xj_H), fM_clash_94 k46 n v0 v1 v2 v3 v4 v5 v6 v7 v8 A = some (xf_r z) → xj_W l z 94 [(0, xj_rv v0), (1, .int v1), (2, .int v2), (3, .int v3), (4, .int v4), (5, .int v5), (6, .int v6), (7, .int v7), (8, .int v8)] [] A
  | 0, _, _, _, _, _, _, _, _, _, _, h => by simp [fM_clash_94] at h
  | n + 1, v0, v1, v2, v3, v4, v5, v6, v7, v8, A, h => by
    rw [fM_clash_94] at h
    refine xg_iload (pc := 94) (i := 8) B dM_clash_94 rfl ?_
    refine xg_aload_n (pc := 96) (i := 0) (r := v0) B dM_clash_96 rfl rfl ?_
    refine xg_getr (pc := 97) B dM_clash_97 flM_28 h (fun x1 ex1 h => ?_)
    refine xg_iload_n (pc := 100) (i := 2) B dM_clash_100 rfl rfl ?_
    refine xg_iaload (pc := 101) B dM_clash_101 h (fun x2 ex2 h => ?_)
    refine xg_icmp_ge (pc := 102) (tgt := 268) B dM_clash_102 (by decide) h (fun c102 h => ?_) (fun c102 h => ?_)
    · refine xg_sub (ls' := [(0, xj_rv v0), (1, .int v1), (2, .int v2), (3, .int v3), (4, .int v4), (5, .int v5)]) [0, 1, 2, 3, 4, 5] rfl ?_
      exact wM_clash_268 hl B k46 hk46 v0 v1 v2 v3 v4 v5 A h
    · refine xg_aload_n (pc := 105) (i := 0) (r := v0) B dM_clash_105 rfl rfl ?_
      refine xg_iload_n (pc := 106) (i := 1) B dM_clash_106 rfl rfl ?_
      refine xg_iload (pc := 107) (i := 6) B dM_clash_107 rfl ?_
      obtain ⟨hq109, h⟩ := xj_rq_i h
      refine xg_ci (pc := 109) (av := [xj_rv v0, .int v1, .int v6]) (st := []) (cy := prog_11_method_38_code) (nLy := 5) (rety := (some .boolean)) (hsy := []) B dM_clash_109 (xj_go_v B dM_clash_109 vwM_258 rfl hq109) (xj_vw_c vwM_258) (xj_vw_i vwM_258) (by decide) (by decide) (by decide) rfl (fun r9 h9 => cM_isExcluded hl _ _ _ _ r9 h9) h (fun x3 A4 eA4 h => ?_)
      refine xg_if_ne (pc := 112) (tgt := 268) B dM_clash_112 (by decide) h (fun c112 h => ?_) (fun c112 h => ?_)
      · refine xg_sub (ls' := [(0, xj_rv v0), (1, .int v1), (2, .int v2), (3, .int v3), (4, .int v4), (5, .int v5)]) [0, 1, 2, 3, 4, 5] rfl ?_
        exact wM_clash_268 hl B k46 hk46 v0 v1 v2 v3 v4 v5 A4 h
      · refine xg_aload_n (pc := 115) (i := 0) (r := v0) B dM_clash_115 rfl rfl ?_
        refine xg_getr (pc := 116) B dM_clash_116 flM_25 h (fun x5 ex5 h => ?_)
        refine xg_sipush (pc := 119) (v := 200) B dM_clash_119 (by decide) ?_
        refine xg_iload_n (pc := 122) (i := 2) B dM_clash_122 rfl rfl ?_
        refine xg_imul (pc := 123) B dM_clash_123 ?_
        refine xg_iload (pc := 124) (i := 8) B dM_clash_124 rfl ?_
        refine xg_iadd (pc := 126) B dM_clash_126 ?_
        refine xg_iaload (pc := 127) B dM_clash_127 h (fun x6 ex6 h => ?_)
        refine xg_istore (pc := 128) (i := 9) (ls' := [(9, .int x6), (0, xj_rv v0), (1, .int v1), (2, .int v2), (3, .int v3), (4, .int v4), (5, .int v5), (6, .int v6), (7, .int v7), (8, .int v8)]) B dM_clash_128 (by decide) ⟨xj_nq (a := 0) (i := 9) (by decide), xj_nq (a := 1) (i := 9) (by decide), xj_nq (a := 2) (i := 9) (by decide), xj_nq (a := 3) (i := 9) (by decide), xj_nq (a := 4) (i := 9) (by decide), xj_nq (a := 5) (i := 9) (by decide), xj_nq (a := 6) (i := 9) (by decide), xj_nq (a := 7) (i := 9) (by decide), fun _ => rfl, trivial⟩ rfl ?_
        refine xg_iload (pc := 130) (i := 9) B dM_clash_130 rfl ?_
        refine xg_iload (pc := 132) (i := 6) B dM_clash_132 rfl ?_
        refine xg_iconst (pc := 134) (v := 4) B dM_clash_134 (by decide) ?_
        refine xg_iadd (pc := 135) B dM_clash_135 ?_
        refine xg_icmp_gt (pc := 136) (tgt := 262) B dM_clash_136 (by decide) h (fun c136 h => ?_) (fun c136 h => ?_)
        · refine xg_sub (ls' := [(0, xj_rv v0), (1, .int v1), (2, .int v2), (3, .int v3), (4, .int v4), (5, .int v5), (6, .int v6), (7, .int v7), (8, .int v8)]) [1, 2, 3, 4, 5, 6, 7, 8, 9] rfl ?_
          exact wM_clash_262 hl B k46 hk46 (fM_clash_94 k46 n) (wM_clash_94 hl B k46 hk46 n) v0 v1 v2 v3 v4 v5 v6 v7 v8 A4 h
        · refine xg_iload (pc := 139) (i := 9) B dM_clash_139 rfl ?_
          refine xg_iload (pc := 141) (i := 6) B dM_clash_141 rfl ?_
          refine xg_iconst (pc := 143) (v := 4) B dM_clash_143 (by decide) ?_
          refine xg_isub (pc := 144) B dM_clash_144 ?_
          refine xg_icmp_lt (pc := 145) (tgt := 262) B dM_clash_145 (by decide) h (fun c145 h => ?_) (fun c145 h => ?_)
          · refine xg_sub (ls' := [(0, xj_rv v0), (1, .int v1), (2, .int v2), (3, .int v3), (4, .int v4), (5, .int v5), (6, .int v6), (7, .int v7), (8, .int v8)]) [1, 2, 3, 4, 5, 6, 7, 8, 9] rfl ?_
            exact wM_clash_262 hl B k46 hk46 (fM_clash_94 k46 n) (wM_clash_94 hl B k46 hk46 n) v0 v1 v2 v3 v4 v5 v6 v7 v8 A4 h
          · refine xg_aload_n (pc := 148) (i := 0) (r := v0) B dM_clash_148 rfl rfl ?_
            refine xg_iload_n (pc := 149) (i := 2) B dM_clash_149 rfl rfl ?_
            refine xg_iload (pc := 150) (i := 9) B dM_clash_150 rfl ?_
            obtain ⟨hq152, h⟩ := xj_rq_i h
            refine xg_ci (pc := 152) (av := [xj_rv v0, .int v2, .int x6]) (st := []) (cy := prog_11_method_38_code) (nLy := 5) (rety := (some .boolean)) (hsy := []) B dM_clash_152 (xj_go_v B dM_clash_152 vwM_258 rfl hq152) (xj_vw_c vwM_258) (xj_vw_i vwM_258) (by decide) (by decide) (by decide) rfl (fun r9 h9 => cM_isExcluded hl _ _ _ _ r9 h9) h (fun x7 A8 eA8 h => ?_)
            refine xg_if_eq (pc := 155) (tgt := 161) B dM_clash_155 (by decide) h (fun c155 h => ?_) (fun c155 h => ?_)
            · refine xg_aload_n (pc := 161) (i := 0) (r := v0) B dM_clash_161 rfl rfl ?_
              refine xg_sipush (pc := 162) (v := 1440) B dM_clash_162 (by decide) ?_
              refine xg_iload (pc := 165) (i := 9) B dM_clash_165 rfl ?_
              refine xg_imul (pc := 167) B dM_clash_167 ?_
              refine xg_aload_n (pc := 168) (i := 0) (r := v0) B dM_clash_168 rfl rfl ?_
              refine xg_getr (pc := 169) B dM_clash_169 flM_19 h (fun x9 ex9 h => ?_)
              refine xg_iload_n (pc := 172) (i := 2) B dM_clash_172 rfl rfl ?_
              refine xg_iaload (pc := 173) B dM_clash_173 h (fun x10 ex10 h => ?_)
              refine xg_iadd (pc := 174) B dM_clash_174 ?_
              obtain ⟨hq175, h⟩ := xj_rq_i h
              refine xg_ci (pc := 175) (av := [xj_rv v0, .int (((1440 : Int32) * x6) + x10)]) (st := []) (cy := prog_11_method_16_code) (nLy := 2) (rety := (some .int)) (hsy := []) B dM_clash_175 (xj_go_v B dM_clash_175 vwM_265 rfl hq175) (xj_vw_c vwM_265) (xj_vw_i vwM_265) (by decide) (by decide) (by decide) rfl (fun r9 h9 => cM_momentOf hl _ _ _ r9 h9) h (fun x11 A12 eA12 h => ?_)
              refine xg_istore (pc := 178) (i := 10) (ls' := [(10, .int x11), (9, .int x6), (0, xj_rv v0), (1, .int v1), (2, .int v2), (3, .int v3), (4, .int v4), (5, .int v5), (6, .int v6), (7, .int v7), (8, .int v8)]) B dM_clash_178 (by decide) ⟨fun _ => rfl, xj_nq (a := 0) (i := 10) (by decide), xj_nq (a := 1) (i := 10) (by decide), xj_nq (a := 2) (i := 10) (by decide), xj_nq (a := 3) (i := 10) (by decide), xj_nq (a := 4) (i := 10) (by decide), xj_nq (a := 5) (i := 10) (by decide), xj_nq (a := 6) (i := 10) (by decide), xj_nq (a := 7) (i := 10) (by decide), xj_nq (a := 8) (i := 10) (by decide), trivial⟩ rfl ?_
              refine xg_iload (pc := 180) (i := 7) B dM_clash_180 rfl ?_
              refine xg_iload (pc := 182) (i := 10) B dM_clash_182 rfl ?_
              refine xg_ci (pc := 184) (av := [.int v7, .int x11]) (st := []) (cy := prog_11_method_45_code) (nLy := 2) (rety := (some .int)) (hsy := []) B dM_clash_184 (xj_go_s B dM_clash_184 swM_274 rfl) swM_274.2.2.1 swM_274.2.2.2.1 (by decide) (by decide) (by decide) rfl (fun r9 h9 => cM_greatest hl _ _ _ r9 h9) h (fun x13 A14 eA14 h => ?_)
              refine xg_istore (pc := 187) (i := 11) (ls' := [(11, .int x13), (10, .int x11), (9, .int x6), (0, xj_rv v0), (1, .int v1), (2, .int v2), (3, .int v3), (4, .int v4), (5, .int v5), (6, .int v6), (7, .int v7), (8, .int v8)]) B dM_clash_187 (by decide) ⟨fun _ => rfl, xj_nq (a := 9) (i := 11) (by decide), xj_nq (a := 0) (i := 11) (by decide), xj_nq (a := 1) (i := 11) (by decide), xj_nq (a := 2) (i := 11) (by decide), xj_nq (a := 3) (i := 11) (by decide), xj_nq (a := 4) (i := 11) (by decide), xj_nq (a := 5) (i := 11) (by decide), xj_nq (a := 6) (i := 11) (by decide), xj_nq (a := 7) (i := 11) (by decide), xj_nq (a := 8) (i := 11) (by decide), trivial⟩ rfl ?_
              refine xg_iload (pc := 189) (i := 11) B dM_clash_189 rfl ?_
              refine xg_iload (pc := 191) (i := 7) B dM_clash_191 rfl ?_
              refine xg_aload_n (pc := 193) (i := 0) (r := v0) B dM_clash_193 rfl rfl ?_
              refine xg_getr (pc := 194) B dM_clash_194 flM_22 h (fun x15 ex15 h => ?_)
              refine xg_iload_n (pc := 197) (i := 1) B dM_clash_197 rfl rfl ?_
              refine xg_iaload (pc := 198) B dM_clash_198 h (fun x16 ex16 h => ?_)
              refine xg_iadd (pc := 199) B dM_clash_199 ?_
              refine xg_iload (pc := 200) (i := 10) B dM_clash_200 rfl ?_
              refine xg_aload_n (pc := 202) (i := 0) (r := v0) B dM_clash_202 rfl rfl ?_
              refine xg_getr (pc := 203) B dM_clash_203 flM_22 h (fun x17 ex17 h => ?_)
              refine xg_iload_n (pc := 206) (i := 2) B dM_clash_206 rfl rfl ?_
              refine xg_iaload (pc := 207) B dM_clash_207 h (fun x18 ex18 h => ?_)
              refine xg_iadd (pc := 208) B dM_clash_208 ?_
              refine xg_ci (pc := 209) (av := [.int (v7 + x16), .int (x11 + x18)]) (st := [.int x13]) (cy := prog_11_method_44_code) (nLy := 2) (rety := (some .int)) (hsy := []) B dM_clash_209 (xj_go_s B dM_clash_209 swM_271 rfl) swM_271.2.2.1 swM_271.2.2.2.1 (by decide) (by decide) (by simp [xj_ic, xj_lc, xj_rv_cat]) rfl (fun r9 h9 => cM_least hl _ _ _ r9 h9) h (fun x19 A20 eA20 h => ?_)
              refine xg_icmp_ge (pc := 212) (tgt := 219) B dM_clash_212 (by decide) h (fun c212 h => ?_) (fun c212 h => ?_)
              · refine xg_iconst (pc := 219) (v := 0) B dM_clash_219 (by decide) ?_
                refine xg_sub (ls' := [(0, xj_rv v0), (1, .int v1), (2, .int v2), (3, .int v3), (4, .int v4), (5, .int v5), (6, .int v6), (7, .int v7), (8, .int v8), (11, .int x13)]) [3, 4, 5, 6, 7, 8, 9, 10, 11, 0] rfl ?_
                exact wM_clash_220 hl B k46 hk46 (fM_clash_94 k46 n) (wM_clash_94 hl B k46 hk46 n) v0 v1 v2 v3 v4 v5 v6 v7 v8 x13 (0 : Int32) A20 h
              · refine xg_iconst (pc := 215) (v := 1) B dM_clash_215 (by decide) ?_
                refine xg_goto (pc := 216) (tgt := 220) B dM_clash_216 (by decide) ?_
                refine xg_sub (ls' := [(0, xj_rv v0), (1, .int v1), (2, .int v2), (3, .int v3), (4, .int v4), (5, .int v5), (6, .int v6), (7, .int v7), (8, .int v8), (11, .int x13)]) [3, 4, 5, 6, 7, 8, 9, 10, 11, 0] rfl ?_
                exact wM_clash_220 hl B k46 hk46 (fM_clash_94 k46 n) (wM_clash_94 hl B k46 hk46 n) v0 v1 v2 v3 v4 v5 v6 v7 v8 x13 (1 : Int32) A20 h
            · refine xg_goto (pc := 158) (tgt := 262) B dM_clash_158 (by decide) ?_
              refine xg_sub (ls' := [(0, xj_rv v0), (1, .int v1), (2, .int v2), (3, .int v3), (4, .int v4), (5, .int v5), (6, .int v6), (7, .int v7), (8, .int v8)]) [1, 2, 3, 4, 5, 6, 7, 8, 9] rfl ?_
              exact wM_clash_262 hl B k46 hk46 (fM_clash_94 k46 n) (wM_clash_94 hl B k46 hk46 n) v0 v1 v2 v3 v4 v5 v6 v7 v8 A8 h
theorem wM_clash_46 {l : Launch} (hl : l.stackTraces = false) {z : xj_F} (B : xj_B l yM_clash prog_11_method_49_code 13 (some .int) [] 3 z) : ∀ (n : Nat) (v0 : xj_Rf) (v1 : Int32) (v2 : Int32) (v3 : Int32) (v4 : Int32) (v5 : Int32) (A : xj_H), fM_clash_46 n v0 v1 v2 v3 v4 v5 A = some (xf_r z) → xj_W l z 46 [(0, xj_rv v0), (1, .int v1), (2, .int v2), (3, .int v3), (4, .int v4), (5, .int v5)] [] A
  | 0, _, _, _, _, _, _, _, h => by simp [fM_clash_46] at h
  | n + 1, v0, v1, v2, v3, v4, v5, A, h => by
    rw [fM_clash_46] at h
    refine xg_iload (pc := 46) (i := 5) B dM_clash_46 rfl ?_
    refine xg_aload_n (pc := 48) (i := 0) (r := v0) B dM_clash_48 rfl rfl ?_
    refine xg_getr (pc := 49) B dM_clash_49 flM_28 h (fun x1 ex1 h => ?_)
    refine xg_iload_n (pc := 52) (i := 1) B dM_clash_52 rfl rfl ?_
    refine xg_iaload (pc := 53) B dM_clash_53 h (fun x2 ex2 h => ?_)
    refine xg_icmp_ge (pc := 54) (tgt := 274) B dM_clash_54 (by decide) h (fun c54 h => ?_) (fun c54 h => ?_)
    · refine xg_iload_n (pc := 274) (i := 3) B dM_clash_274 rfl rfl ?_
      exact xg_iret B dM_clash_275 h
    · refine xg_aload_n (pc := 57) (i := 0) (r := v0) B dM_clash_57 rfl rfl ?_
      refine xg_getr (pc := 58) B dM_clash_58 flM_25 h (fun x3 ex3 h => ?_)
      refine xg_sipush (pc := 61) (v := 200) B dM_clash_61 (by decide) ?_
      refine xg_iload_n (pc := 64) (i := 1) B dM_clash_64 rfl rfl ?_
      refine xg_imul (pc := 65) B dM_clash_65 ?_
      refine xg_iload (pc := 66) (i := 5) B dM_clash_66 rfl ?_
      refine xg_iadd (pc := 68) B dM_clash_68 ?_
      refine xg_iaload (pc := 69) B dM_clash_69 h (fun x4 ex4 h => ?_)
      refine xg_istore (pc := 70) (i := 6) (ls' := [(6, .int x4), (0, xj_rv v0), (1, .int v1), (2, .int v2), (3, .int v3), (4, .int v4), (5, .int v5)]) B dM_clash_70 (by decide) ⟨xj_nq (a := 0) (i := 6) (by decide), xj_nq (a := 1) (i := 6) (by decide), xj_nq (a := 2) (i := 6) (by decide), xj_nq (a := 3) (i := 6) (by decide), xj_nq (a := 4) (i := 6) (by decide), fun _ => rfl, trivial⟩ rfl ?_
      refine xg_aload_n (pc := 72) (i := 0) (r := v0) B dM_clash_72 rfl rfl ?_
      refine xg_sipush (pc := 73) (v := 1440) B dM_clash_73 (by decide) ?_
      refine xg_iload (pc := 76) (i := 6) B dM_clash_76 rfl ?_
      refine xg_imul (pc := 78) B dM_clash_78 ?_
      refine xg_aload_n (pc := 79) (i := 0) (r := v0) B dM_clash_79 rfl rfl ?_
      refine xg_getr (pc := 80) B dM_clash_80 flM_19 h (fun x5 ex5 h => ?_)
      refine xg_iload_n (pc := 83) (i := 1) B dM_clash_83 rfl rfl ?_
      refine xg_iaload (pc := 84) B dM_clash_84 h (fun x6 ex6 h => ?_)
      refine xg_iadd (pc := 85) B dM_clash_85 ?_
      obtain ⟨hq86, h⟩ := xj_rq_i h
      refine xg_ci (pc := 86) (av := [xj_rv v0, .int (((1440 : Int32) * x4) + x6)]) (st := []) (cy := prog_11_method_16_code) (nLy := 2) (rety := (some .int)) (hsy := []) B dM_clash_86 (xj_go_v B dM_clash_86 vwM_265 rfl hq86) (xj_vw_c vwM_265) (xj_vw_i vwM_265) (by decide) (by decide) (by decide) rfl (fun r9 h9 => cM_momentOf hl _ _ _ r9 h9) h (fun x7 A8 eA8 h => ?_)
      refine xg_istore (pc := 89) (i := 7) (ls' := [(7, .int x7), (6, .int x4), (0, xj_rv v0), (1, .int v1), (2, .int v2), (3, .int v3), (4, .int v4), (5, .int v5)]) B dM_clash_89 (by decide) ⟨fun _ => rfl, xj_nq (a := 0) (i := 7) (by decide), xj_nq (a := 1) (i := 7) (by decide), xj_nq (a := 2) (i := 7) (by decide), xj_nq (a := 3) (i := 7) (by decide), xj_nq (a := 4) (i := 7) (by decide), xj_nq (a := 5) (i := 7) (by decide), trivial⟩ rfl ?_
      refine xg_iconst (pc := 91) (v := 0) B dM_clash_91 (by decide) ?_
      refine xg_istore (pc := 92) (i := 8) (ls' := [(8, .int (0 : Int32)), (7, .int x7), (6, .int x4), (0, xj_rv v0), (1, .int v1), (2, .int v2), (3, .int v3), (4, .int v4), (5, .int v5)]) B dM_clash_92 (by decide) ⟨fun _ => rfl, xj_nq (a := 6) (i := 8) (by decide), xj_nq (a := 0) (i := 8) (by decide), xj_nq (a := 1) (i := 8) (by decide), xj_nq (a := 2) (i := 8) (by decide), xj_nq (a := 3) (i := 8) (by decide), xj_nq (a := 4) (i := 8) (by decide), xj_nq (a := 5) (i := 8) (by decide), trivial⟩ rfl ?_
      refine xg_sub (ls' := [(0, xj_rv v0), (1, .int v1), (2, .int v2), (3, .int v3), (4, .int v4), (5, .int v5), (6, .int x4), (7, .int x7), (8, .int (0 : Int32))]) [3, 4, 5, 6, 7, 8, 2, 1, 0] rfl ?_
      exact wM_clash_94 hl B (fM_clash_46 n) (wM_clash_46 hl B n) xj_fu v0 v1 v2 v3 v4 v5 x4 x7 (0 : Int32) A8 h
theorem wM_clash_30 {l : Launch} (hl : l.stackTraces = false) {z : xj_F} (B : xj_B l yM_clash prog_11_method_49_code 13 (some .int) [] 3 z) (v0 : xj_Rf) (v1 : Int32) (v2 : Int32) (s0 : Int32) (s1 : xj_Rf) (A : xj_H) (h : fM_clash_30 v0 v1 v2 s0 s1 A = some (xf_r z)) : xj_W l z 30 [(0, xj_rv v0), (1, .int v1), (2, .int v2)] [.int s0, xj_rv s1] A := by
  unfold fM_clash_30 at h
  obtain ⟨hq30, h⟩ := xj_rq_i h
  refine xg_ci (pc := 30) (av := [xj_rv s1, .int s0]) (st := []) (cy := prog_11_method_3_code) (nLy := 2) (rety := (some .boolean)) (hsy := []) B dM_clash_30 (xj_go_v B dM_clash_30 vwM_104 rfl hq30) (xj_vw_c vwM_104) (xj_vw_i vwM_104) (by decide) (by decide) (by decide) rfl (fun r9 h9 => cM_fails hl _ _ _ r9 h9) h (fun x1 A2 eA2 h => ?_)
  refine xg_if_eq (pc := 33) (tgt := 38) B dM_clash_33 (by decide) h (fun c33 h => ?_) (fun c33 h => ?_)
  · refine xg_iconst (pc := 38) (v := -1) B dM_clash_38 (by decide) ?_
    refine xg_istore_n (pc := 39) (i := 3) (ls' := [(3, .int (-1 : Int32)), (0, xj_rv v0), (1, .int v1), (2, .int v2)]) B dM_clash_39 rfl (by decide) ⟨xj_nq (a := 0) (i := 3) (by decide), xj_nq (a := 1) (i := 3) (by decide), fun _ => rfl, trivial⟩ rfl ?_
    refine xg_iconst (pc := 40) (v := 0) B dM_clash_40 (by decide) ?_
    refine xg_istore (pc := 41) (i := 4) (ls' := [(4, .int (0 : Int32)), (3, .int (-1 : Int32)), (0, xj_rv v0), (1, .int v1), (2, .int v2)]) B dM_clash_41 (by decide) ⟨fun _ => rfl, xj_nq (a := 0) (i := 4) (by decide), xj_nq (a := 1) (i := 4) (by decide), xj_nq (a := 2) (i := 4) (by decide), trivial⟩ rfl ?_
    refine xg_iconst (pc := 43) (v := 0) B dM_clash_43 (by decide) ?_
    refine xg_istore (pc := 44) (i := 5) (ls' := [(5, .int (0 : Int32)), (4, .int (0 : Int32)), (3, .int (-1 : Int32)), (0, xj_rv v0), (1, .int v1), (2, .int v2)]) B dM_clash_44 (by decide) ⟨fun _ => rfl, xj_nq (a := 3) (i := 5) (by decide), xj_nq (a := 0) (i := 5) (by decide), xj_nq (a := 1) (i := 5) (by decide), xj_nq (a := 2) (i := 5) (by decide), trivial⟩ rfl ?_
    refine xg_sub (ls' := [(0, xj_rv v0), (1, .int v1), (2, .int v2), (3, .int (-1 : Int32)), (4, .int (0 : Int32)), (5, .int (0 : Int32))]) [3, 4, 5, 2, 1, 0] rfl ?_
    exact wM_clash_46 hl B xj_fu v0 v1 v2 (-1 : Int32) (0 : Int32) (0 : Int32) A2 h
  · refine xg_iconst (pc := 36) (v := 0) B dM_clash_36 (by decide) ?_
    exact xg_iret B dM_clash_37 h
theorem wM_clash_25 {l : Launch} (hl : l.stackTraces = false) {z : xj_F} (B : xj_B l yM_clash prog_11_method_49_code 13 (some .int) [] 3 z) (v0 : xj_Rf) (v1 : Int32) (v2 : Int32) (s0 : xj_Rf) (A : xj_H) (h : fM_clash_25 v0 v1 v2 s0 A = some (xf_r z)) : xj_W l z 25 [(0, xj_rv v0), (1, .int v1), (2, .int v2)] [xj_rv s0] A := by
  unfold fM_clash_25 at h
  refine xg_iconst (pc := 25) (v := 1) B dM_clash_25 (by decide) ?_
  refine xg_goto (pc := 26) (tgt := 30) B dM_clash_26 (by decide) ?_
  exact wM_clash_30 hl B v0 v1 v2 (1 : Int32) s0 A h
theorem wM_clash {l : Launch} (hl : l.stackTraces = false) {z : xj_F} (B : xj_B l yM_clash prog_11_method_49_code 13 (some .int) [] 3 z) (v0 : xj_Rf) (v1 : Int32) (v2 : Int32) (A : xj_H) (h : fM_clash v0 v1 v2 A = some (xf_r z)) : xj_W l z 0 [(0, xj_rv v0), (1, .int v1), (2, .int v2)] [] A := by
  unfold fM_clash at h
  refine xg_aload_n (pc := 0) (i := 0) (r := v0) B dM_clash_0 rfl rfl ?_
  refine xg_iload_n (pc := 1) (i := 1) B dM_clash_1 rfl rfl ?_
  refine xg_if_lt (pc := 2) (tgt := 25) B dM_clash_2 (by decide) h (fun c2 h => ?_) (fun c2 h => ?_)
  · exact wM_clash_25 hl B v0 v1 v2 v0 A h
  · refine xg_iload_n (pc := 5) (i := 1) B dM_clash_5 rfl rfl ?_
    refine xg_aload_n (pc := 6) (i := 0) (r := v0) B dM_clash_6 rfl rfl ?_
    refine xg_geti (pc := 7) B dM_clash_7 flM_249 h (fun x1 ex1 h => ?_)
    refine xg_icmp_ge (pc := 10) (tgt := 25) B dM_clash_10 (by decide) h (fun c10 h => ?_) (fun c10 h => ?_)
    · exact wM_clash_25 hl B v0 v1 v2 v0 A h
    · refine xg_iload_n (pc := 13) (i := 2) B dM_clash_13 rfl rfl ?_
      refine xg_if_lt (pc := 14) (tgt := 25) B dM_clash_14 (by decide) h (fun c14 h => ?_) (fun c14 h => ?_)
      · exact wM_clash_25 hl B v0 v1 v2 v0 A h
      · refine xg_iload_n (pc := 17) (i := 2) B dM_clash_17 rfl rfl ?_
        refine xg_aload_n (pc := 18) (i := 0) (r := v0) B dM_clash_18 rfl rfl ?_
        refine xg_geti (pc := 19) B dM_clash_19 flM_249 h (fun x2 ex2 h => ?_)
        refine xg_icmp_lt (pc := 22) (tgt := 29) B dM_clash_22 (by decide) h (fun c22 h => ?_) (fun c22 h => ?_)
        · refine xg_iconst (pc := 29) (v := 0) B dM_clash_29 (by decide) ?_
          exact wM_clash_30 hl B v0 v1 v2 (0 : Int32) v0 A h
        · exact wM_clash_25 hl B v0 v1 v2 v0 A h
theorem cM_clash {l : Launch} (hl : l.stackTraces = false) (v0 : xj_Rf) (v1 : Int32) (v2 : Int32) (A : xj_H) (r : xj_R) (h : fM_clash v0 v1 v2 A = some r) : xj_M l yM_clash prog_11_method_49_code 13 (some .int) [] 3 [xj_rv v0, .int v1, .int v2] A r := by
  refine xj_M.of hl (by decide +kernel) (by simp [lg_sl, xj_ic, xj_lc, xj_rv_cat]) (fun z B hA hr => ?_)
  subst hr
  have hw := wM_clash hl B v0 v1 v2 A h
  simpa [lv_args, xj_ic, xj_lc, xj_rv_cat] using hw
/-! RecurrenceBookLaw.zone(LRecurrenceBook;IIIIII)I -/
def fL_zone (v0 : xj_Rf) (v1 : Int32) (v2 : Int32) (v3 : Int32) (v4 : Int32) (v5 : Int32) (v6 : Int32) (A : xj_H) : Option xj_R :=
  xj_kv (xj_rq A v0 0 (fB_zone v0 v1 v2 v3 v4 v5 v6 A)) (fun A2 =>
    some (.inl (some (.int (0 : Int32))), A2))
  (fun x4 A3 =>
    if x4 = "java/lang/IllegalArgumentException" then
      some (.inl (some (.int (1 : Int32))), A3)
    else none)
theorem wL_zone {l : Launch} (hl : l.stackTraces = false) {z : xj_F} (B : xj_B l yL_zone method_3_code 8 (some .int) [(0, 13, 16, 13)] 7 z) (v0 : xj_Rf) (v1 : Int32) (v2 : Int32) (v3 : Int32) (v4 : Int32) (v5 : Int32) (v6 : Int32) (A : xj_H) (h : fL_zone v0 v1 v2 v3 v4 v5 v6 A = some (xf_r z)) : xj_W l z 0 [(0, xj_rv v0), (1, .int v1), (2, .int v2), (3, .int v3), (4, .int v4), (5, .int v5), (6, .int v6)] [] A := by
  unfold fL_zone at h
  refine xg_aload_n (pc := 0) (i := 0) (r := v0) B dL_zone_0 rfl rfl ?_
  refine xg_iload_n (pc := 1) (i := 1) B dL_zone_1 rfl rfl ?_
  refine xg_iload_n (pc := 2) (i := 2) B dL_zone_2 rfl rfl ?_
  refine xg_iload_n (pc := 3) (i := 3) B dL_zone_3 rfl rfl ?_
  refine xg_iload (pc := 4) (i := 4) B dL_zone_4 rfl ?_
  refine xg_iload (pc := 6) (i := 5) B dL_zone_6 rfl ?_
  refine xg_iload (pc := 8) (i := 6) B dL_zone_8 rfl ?_
  obtain ⟨hq10, h⟩ := xj_rq_kv h
  refine xg_kv (pc := 10) (av := [xj_rv v0, .int v1, .int v2, .int v3, .int v4, .int v5, .int v6]) (st := []) (cy := prog_1_method_3_code) (nLy := 8) (rety := none) (hsy := []) B dL_zone_10 (xj_go_v B dL_zone_10 vwL_7 rfl hq10) (xj_vw_c vwL_7) (xj_vw_i vwL_7) (by decide) (by decide) (by decide) (fun r9 h9 => cB_zone hl _ _ _ _ _ _ _ _ r9 h9) h (fun A2 eA2 h => ?_) (fun x4 A3 eA3 h => ?_)
  · refine xg_goto (pc := 13) (tgt := 20) B dL_zone_13 (by decide) ?_
    refine xg_iconst (pc := 20) (v := 0) B dL_zone_20 (by decide) ?_
    exact xg_iret B dL_zone_21 h
  · obtain ⟨hx10, h⟩ := xj_ifn h
    subst hx10
    refine xj_X.catch1 (name := "java/lang/IllegalArgumentException") (i := 7) (ls' := [(0, xj_rv v0), (1, .int v1), (2, .int v2), (3, .int v3), (4, .int v4), (5, .int v5), (6, .int v6)]) B rfl ⟨by decide, by decide⟩ (by decide) (xm_t 186 (by decide +kernel) rfl) (xm_t 196 (by decide +kernel) rfl) dL_zone_16 (Or.inr ⟨rfl, rfl⟩) (by decide) ⟨xj_nq (a := 0) (i := 7) (by decide), xj_nq (a := 1) (i := 7) (by decide), xj_nq (a := 2) (i := 7) (by decide), xj_nq (a := 3) (i := 7) (by decide), xj_nq (a := 4) (i := 7) (by decide), xj_nq (a := 5) (i := 7) (by decide), fun _ => rfl, trivial⟩ rfl ?_
    refine xg_iconst (pc := 18) (v := 1) B dL_zone_18 (by decide) ?_
    exact xg_iret B dL_zone_19 h
theorem cL_zone {l : Launch} (hl : l.stackTraces = false) (v0 : xj_Rf) (v1 : Int32) (v2 : Int32) (v3 : Int32) (v4 : Int32) (v5 : Int32) (v6 : Int32) (A : xj_H) (r : xj_R) (h : fL_zone v0 v1 v2 v3 v4 v5 v6 A = some r) : xj_M l yL_zone method_3_code 8 (some .int) [(0, 13, 16, 13)] 7 [xj_rv v0, .int v1, .int v2, .int v3, .int v4, .int v5, .int v6] A r := by
  refine xj_M.of hl (by decide +kernel) (by simp [lg_sl, xj_ic, xj_lc, xj_rv_cat]) (fun z B hA hr => ?_)
  subst hr
  have hw := wL_zone hl B v0 v1 v2 v3 v4 v5 v6 A h
  simpa [lv_args, xj_ic, xj_lc, xj_rv_cat] using hw
/-! RecurrenceBookLaw.event(LRecurrenceBook;III[J)I -/
def fL_event (v0 : xj_Rf) (v1 : Int32) (v2 : Int32) (v3 : Int32) (v4 : xj_Rf) (A : xj_H) : Option xj_R :=
  xj_ki (xj_rq A v0 0 (fB_event v0 v1 v2 v3 A)) (fun x3 A4 =>
    (xj_las A4 v4 (0 : Int32) (Int32.toInt64 x3)).bind fun A5 =>
    some (.inl (some (.int (0 : Int32))), A5))
  (fun x7 A6 =>
    if x7 = "java/lang/IllegalStateException" then
      some (.inl (some (.int (1 : Int32))), A6)
    else if x7 = "java/lang/IllegalArgumentException" then
      some (.inl (some (.int (2 : Int32))), A6)
    else none)
theorem wL_event {l : Launch} (hl : l.stackTraces = false) {z : xj_F} (B : xj_B l yL_event method_4_code 6 (some .int) [(0, 12, 15, 19), (0, 12, 19, 13)] 11 z) (v0 : xj_Rf) (v1 : Int32) (v2 : Int32) (v3 : Int32) (v4 : xj_Rf) (A : xj_H) (h : fL_event v0 v1 v2 v3 v4 A = some (xf_r z)) : xj_W l z 0 [(0, xj_rv v0), (1, .int v1), (2, .int v2), (3, .int v3), (4, xj_rv v4)] [] A := by
  unfold fL_event at h
  refine xg_aload (pc := 0) (i := 4) (r := v4) B dL_event_0 rfl ?_
  refine xg_iconst (pc := 2) (v := 0) B dL_event_2 (by decide) ?_
  refine xg_aload_n (pc := 3) (i := 0) (r := v0) B dL_event_3 rfl rfl ?_
  refine xg_iload_n (pc := 4) (i := 1) B dL_event_4 rfl rfl ?_
  refine xg_iload_n (pc := 5) (i := 2) B dL_event_5 rfl rfl ?_
  refine xg_iload_n (pc := 6) (i := 3) B dL_event_6 rfl rfl ?_
  obtain ⟨hq7, h⟩ := xj_rq_ki h
  refine xg_ki (pc := 7) (av := [xj_rv v0, .int v1, .int v2, .int v3]) (st := [.int (0 : Int32), xj_rv v4]) (cy := prog_1_method_4_code) (nLy := 6) (rety := (some .int)) (hsy := []) B dL_event_7 (xj_go_v B dL_event_7 vwL_15 rfl hq7) (xj_vw_c vwL_15) (xj_vw_i vwL_15) (by decide) (by decide) (by simp [xj_ic, xj_lc, xj_rv_cat]) (fun r9 h9 => cB_event hl _ _ _ _ _ r9 h9) h (fun x3 A4 eA4 h => ?_) (fun x7 A6 eA6 h => ?_)
  · refine xg_i2l (pc := 10) B dL_event_10 ?_
    refine xg_lastore (pc := 11) B dL_event_11 h (fun A5 eA5 h => ?_)
    refine xg_goto (pc := 12) (tgt := 23) B dL_event_12 (by decide) ?_
    refine xg_iconst (pc := 23) (v := 0) B dL_event_23 (by decide) ?_
    exact xg_iret B dL_event_24 h
  · by_cases hy7 : x7 = "java/lang/IllegalStateException"
    · rw [if_pos hy7] at h
      subst hy7
      refine xj_X.catch1 (name := "java/lang/IllegalStateException") (i := 5) (ls' := [(0, xj_rv v0), (1, .int v1), (2, .int v2), (3, .int v3), (4, xj_rv v4)]) B rfl ⟨by decide, by decide⟩ (by decide) (xm_t 276 (by decide +kernel) rfl) (xm_t 283 (by decide +kernel) rfl) dL_event_15 (Or.inr ⟨rfl, rfl⟩) (by decide) ⟨xj_nq (a := 0) (i := 5) (by decide), xj_nq (a := 1) (i := 5) (by decide), xj_nq (a := 2) (i := 5) (by decide), xj_nq (a := 3) (i := 5) (by decide), fun _ => xj_rv_cat v4, trivial⟩ rfl ?_
      refine xg_iconst (pc := 17) (v := 1) B dL_event_17 (by decide) ?_
      exact xg_iret B dL_event_18 h
    · rw [if_neg hy7] at h
      obtain ⟨hx7, h⟩ := xj_ifn h
      subst hx7
      refine xj_X.catch2 (nm1 := "java/lang/IllegalStateException") (name := "java/lang/IllegalArgumentException") (i := 5) (ls' := [(0, xj_rv v0), (1, .int v1), (2, .int v2), (3, .int v3), (4, xj_rv v4)]) B rfl ⟨by decide, by decide⟩ ⟨by decide, by decide⟩ (by decide) (by decide) (xm_t 276 (by decide +kernel) rfl) (xm_t 186 (by decide +kernel) rfl) (xj_nc B) (xm_t 196 (by decide +kernel) rfl) dL_event_19 (Or.inr ⟨rfl, rfl⟩) (by decide) ⟨xj_nq (a := 0) (i := 5) (by decide), xj_nq (a := 1) (i := 5) (by decide), xj_nq (a := 2) (i := 5) (by decide), xj_nq (a := 3) (i := 5) (by decide), fun _ => xj_rv_cat v4, trivial⟩ rfl ?_
      refine xg_iconst (pc := 21) (v := 2) B dL_event_21 (by decide) ?_
      exact xg_iret B dL_event_22 h
theorem cL_event {l : Launch} (hl : l.stackTraces = false) (v0 : xj_Rf) (v1 : Int32) (v2 : Int32) (v3 : Int32) (v4 : xj_Rf) (A : xj_H) (r : xj_R) (h : fL_event v0 v1 v2 v3 v4 A = some r) : xj_M l yL_event method_4_code 6 (some .int) [(0, 12, 15, 19), (0, 12, 19, 13)] 11 [xj_rv v0, .int v1, .int v2, .int v3, xj_rv v4] A r := by
  refine xj_M.of hl (by decide +kernel) (by simp [lg_sl, xj_ic, xj_lc, xj_rv_cat]) (fun z B hA hr => ?_)
  subst hr
  have hw := wL_event hl B v0 v1 v2 v3 v4 A h
  simpa [lv_args, xj_ic, xj_lc, xj_rv_cat] using hw
/-! RecurrenceBookLaw.exclude(LRecurrenceBook;II[J)I -/
def fL_exclude_16 (s0 : Int64) (s1 : Int32) (s2 : xj_Rf) (A : xj_H) : Option xj_R :=
  (xj_las A s2 s1 s0).bind fun A1 =>
  some (.inl (some (.int (0 : Int32))), A1)
def fL_exclude (v0 : xj_Rf) (v1 : Int32) (v2 : Int32) (v3 : xj_Rf) (A : xj_H) : Option xj_R :=
  xj_ki (xj_rq A v0 0 (fB_exclude v0 v1 v2 A)) (fun x3 A4 =>
    if x3 = 0 then
      fL_exclude_16 (0 : Int64) (0 : Int32) v3 A4
    else
      fL_exclude_16 (1 : Int64) (0 : Int32) v3 A4)
  (fun x6 A5 =>
    if x6 = "java/util/NoSuchElementException" then
      some (.inl (some (.int (1 : Int32))), A5)
    else none)
theorem wL_exclude_16 {l : Launch} (hl : l.stackTraces = false) {z : xj_F} (B : xj_B l yL_exclude method_5_code 5 (some .int) [(0, 17, 20, 25)] 8 z) (s0 : Int64) (s1 : Int32) (s2 : xj_Rf) (A : xj_H) (h : fL_exclude_16 s0 s1 s2 A = some (xf_r z)) : xj_W l z 16 [] [.long s0, .int s1, xj_rv s2] A := by
  unfold fL_exclude_16 at h
  refine xg_lastore (pc := 16) B dL_exclude_16 h (fun A1 eA1 h => ?_)
  refine xg_goto (pc := 17) (tgt := 24) B dL_exclude_17 (by decide) ?_
  refine xg_iconst (pc := 24) (v := 0) B dL_exclude_24 (by decide) ?_
  exact xg_iret B dL_exclude_25 h
theorem wL_exclude {l : Launch} (hl : l.stackTraces = false) {z : xj_F} (B : xj_B l yL_exclude method_5_code 5 (some .int) [(0, 17, 20, 25)] 8 z) (v0 : xj_Rf) (v1 : Int32) (v2 : Int32) (v3 : xj_Rf) (A : xj_H) (h : fL_exclude v0 v1 v2 v3 A = some (xf_r z)) : xj_W l z 0 [(0, xj_rv v0), (1, .int v1), (2, .int v2), (3, xj_rv v3)] [] A := by
  unfold fL_exclude at h
  refine xg_aload_n (pc := 0) (i := 3) (r := v3) B dL_exclude_0 rfl rfl ?_
  refine xg_iconst (pc := 1) (v := 0) B dL_exclude_1 (by decide) ?_
  refine xg_aload_n (pc := 2) (i := 0) (r := v0) B dL_exclude_2 rfl rfl ?_
  refine xg_iload_n (pc := 3) (i := 1) B dL_exclude_3 rfl rfl ?_
  refine xg_iload_n (pc := 4) (i := 2) B dL_exclude_4 rfl rfl ?_
  obtain ⟨hq5, h⟩ := xj_rq_ki h
  refine xg_ki (pc := 5) (av := [xj_rv v0, .int v1, .int v2]) (st := [.int (0 : Int32), xj_rv v3]) (cy := prog_1_method_5_code) (nLy := 4) (rety := (some .boolean)) (hsy := []) B dL_exclude_5 (xj_go_v B dL_exclude_5 vwL_21 rfl hq5) (xj_vw_c vwL_21) (xj_vw_i vwL_21) (by decide) (by decide) (by simp [xj_ic, xj_lc, xj_rv_cat]) (fun r9 h9 => cB_exclude hl _ _ _ _ r9 h9) h (fun x3 A4 eA4 h => ?_) (fun x6 A5 eA5 h => ?_)
  · refine xg_if_eq (pc := 8) (tgt := 15) B dL_exclude_8 (by decide) h (fun c8 h => ?_) (fun c8 h => ?_)
    · refine xg_lconst (pc := 15) (v := 0) B dL_exclude_15 (by decide) ?_
      refine xg_sub (ls' := []) [] rfl ?_
      exact wL_exclude_16 hl B (0 : Int64) (0 : Int32) v3 A4 h
    · refine xg_lconst (pc := 11) (v := 1) B dL_exclude_11 (by decide) ?_
      refine xg_goto (pc := 12) (tgt := 16) B dL_exclude_12 (by decide) ?_
      refine xg_sub (ls' := []) [] rfl ?_
      exact wL_exclude_16 hl B (1 : Int64) (0 : Int32) v3 A4 h
  · obtain ⟨hx5, h⟩ := xj_ifn h
    subst hx5
    refine xj_X.catch1 (name := "java/util/NoSuchElementException") (i := 4) (ls' := [(0, xj_rv v0), (1, .int v1), (2, .int v2), (3, xj_rv v3)]) B rfl ⟨by decide, by decide⟩ (by decide) (xm_t 652 (by decide +kernel) rfl) (xm_t 663 (by decide +kernel) rfl) dL_exclude_20 (Or.inr ⟨rfl, rfl⟩) (by decide) ⟨xj_nq (a := 0) (i := 4) (by decide), xj_nq (a := 1) (i := 4) (by decide), xj_nq (a := 2) (i := 4) (by decide), fun _ => xj_rv_cat v3, trivial⟩ rfl ?_
    refine xg_iconst (pc := 22) (v := 1) B dL_exclude_22 (by decide) ?_
    exact xg_iret B dL_exclude_23 h
theorem cL_exclude {l : Launch} (hl : l.stackTraces = false) (v0 : xj_Rf) (v1 : Int32) (v2 : Int32) (v3 : xj_Rf) (A : xj_H) (r : xj_R) (h : fL_exclude v0 v1 v2 v3 A = some r) : xj_M l yL_exclude method_5_code 5 (some .int) [(0, 17, 20, 25)] 8 [xj_rv v0, .int v1, .int v2, xj_rv v3] A r := by
  refine xj_M.of hl (by decide +kernel) (by simp [lg_sl, xj_ic, xj_lc, xj_rv_cat]) (fun z B hA hr => ?_)
  subst hr
  have hw := wL_exclude hl B v0 v1 v2 v3 A h
  simpa [lv_args, xj_ic, xj_lc, xj_rv_cat] using hw

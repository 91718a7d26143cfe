/-! RecurrenceBook$Spans.add(II)V -/
def fS_add_121 (A : xj_H) : Option xj_R :=
  some (.inl none, A)
def fS_add_78 (v0 : xj_Rf) (v3 : Int32) (v4 : Int32) (A : xj_H) : Option xj_R :=
  (xj_gi A v0 3 2).bind fun x1 =>
  (xj_gr A v0 3 0).bind fun x2 =>
  (xj_len A x2 0).bind fun x3 =>
  if x3 ≤ x1 then
    fS_add_121  A
  else
    (xj_gr A v0 3 0).bind fun x4 =>
    (xj_gi A v0 3 2).bind fun x5 =>
    (xj_as A x4 0 x5 v3).bind fun A6 =>
    (xj_gr A6 v0 3 1).bind fun x7 =>
    (xj_gi A6 v0 3 2).bind fun x8 =>
    (xj_as A6 x7 0 x8 v4).bind fun A9 =>
    (xj_gi A9 v0 3 2).bind fun x10 =>
    (xj_pv A9 v0 3 2 (.int (x10 + (1 : Int32)))).bind fun A11 =>
    fS_add_121  A11
def fS_add (v0 : xj_Rf) (v1 : Int32) (v2 : Int32) (A : xj_H) : Option xj_R :=
  (xj_gi A v0 3 3).bind fun x1 =>
  xj_bi (fJ_max v1 x1 A) fun x2 A3 =>
  (xj_gi A3 v0 3 4).bind fun x4 =>
  xj_bi (fJ_min v2 x4 A3) fun x5 A6 =>
  if x2 < x5 then
    (xj_gi A6 v0 3 2).bind fun x7 =>
    if x7 ≤ 0 then
      fS_add_78 v0 x2 x5 A6
    else
      (xj_gr A6 v0 3 1).bind fun x8 =>
      (xj_gi A6 v0 3 2).bind fun x9 =>
      (xj_ai A6 x8 0 (x9 - (1 : Int32))).bind fun x10 =>
      if x10 < x2 then
        fS_add_78 v0 x2 x5 A6
      else
        (xj_gr A6 v0 3 1).bind fun x11 =>
        (xj_gi A6 v0 3 2).bind fun x12 =>
        (xj_gr A6 v0 3 1).bind fun x13 =>
        (xj_gi A6 v0 3 2).bind fun x14 =>
        (xj_ai A6 x13 0 (x14 - (1 : Int32))).bind fun x15 =>
        xj_bi (fJ_max x15 x5 A6) fun x16 A17 =>
        (xj_as A17 x11 0 (x12 - (1 : Int32)) x16).bind fun A18 =>
        fS_add_121  A18
  else
    some (.inl none, A6)
theorem wS_add_121 {l : Launch} (hl : l.stackTraces = false) {z : xj_F} (B : xj_B l yS_add prog_7_method_3_code 5 none [] 2 z) (A : xj_H) (h : fS_add_121  A = some (xf_r z)) : xj_W l z 121 [] [] A := by
  unfold fS_add_121 at h
  exact xg_vret B dS_add_121 h
theorem wS_add_78 {l : Launch} (hl : l.stackTraces = false) {z : xj_F} (B : xj_B l yS_add prog_7_method_3_code 5 none [] 2 z) (v0 : xj_Rf) (v3 : Int32) (v4 : Int32) (A : xj_H) (h : fS_add_78 v0 v3 v4 A = some (xf_r z)) : xj_W l z 78 [(0, xj_rv v0), (3, .int v3), (4, .int v4)] [] A := by
  unfold fS_add_78 at h
  refine xg_aload_n (pc := 78) (i := 0) (r := v0) B dS_add_78 rfl rfl ?_
  refine xg_geti (pc := 79) B dS_add_79 flS_18 h (fun x1 ex1 h => ?_)
  refine xg_aload_n (pc := 82) (i := 0) (r := v0) B dS_add_82 rfl rfl ?_
  refine xg_getr (pc := 83) B dS_add_83 flS_9 h (fun x2 ex2 h => ?_)
  refine xg_alen (pc := 86) (t := 0) B (fun _ => rfl) dS_add_86 h (fun x3 ex3 h => ?_)
  refine xg_icmp_ge (pc := 87) (tgt := 121) B dS_add_87 (by decide) h (fun c87 h => ?_) (fun c87 h => ?_)
  · refine xg_sub (ls' := []) [] rfl ?_
    exact wS_add_121 hl B  A h
  · refine xg_aload_n (pc := 90) (i := 0) (r := v0) B dS_add_90 rfl rfl ?_
    refine xg_getr (pc := 91) B dS_add_91 flS_9 h (fun x4 ex4 h => ?_)
    refine xg_aload_n (pc := 94) (i := 0) (r := v0) B dS_add_94 rfl rfl ?_
    refine xg_geti (pc := 95) B dS_add_95 flS_18 h (fun x5 ex5 h => ?_)
    refine xg_iload_n (pc := 98) (i := 3) B dS_add_98 rfl rfl ?_
    refine xg_iastore (pc := 99) B dS_add_99 h (fun A6 eA6 h => ?_)
    refine xg_aload_n (pc := 100) (i := 0) (r := v0) B dS_add_100 rfl rfl ?_
    refine xg_getr (pc := 101) B dS_add_101 flS_15 h (fun x7 ex7 h => ?_)
    refine xg_aload_n (pc := 104) (i := 0) (r := v0) B dS_add_104 rfl rfl ?_
    refine xg_geti (pc := 105) B dS_add_105 flS_18 h (fun x8 ex8 h => ?_)
    refine xg_iload (pc := 108) (i := 4) B dS_add_108 rfl ?_
    refine xg_iastore (pc := 110) B dS_add_110 h (fun A9 eA9 h => ?_)
    refine xg_aload_n (pc := 111) (i := 0) (r := v0) B dS_add_111 rfl rfl ?_
    refine xg_dup (pc := 112) B dS_add_112 (xj_rv_cat v0) ?_
    refine xg_geti (pc := 113) B dS_add_113 flS_18 h (fun x10 ex10 h => ?_)
    refine xg_iconst (pc := 116) (v := 1) B dS_add_116 (by decide) ?_
    refine xg_iadd (pc := 117) B dS_add_117 ?_
    refine xg_puti (pc := 118) B dS_add_118 (fpS_18 _) h (fun A11 eA11 h => ?_)
    refine xg_sub (ls' := []) [] rfl ?_
    exact wS_add_121 hl B  A11 h
theorem wS_add {l : Launch} (hl : l.stackTraces = false) {z : xj_F} (B : xj_B l yS_add prog_7_method_3_code 5 none [] 2 z) (v0 : xj_Rf) (v1 : Int32) (v2 : Int32) (A : xj_H) (h : fS_add v0 v1 v2 A = some (xf_r z)) : xj_W l z 0 [(0, xj_rv v0), (1, .int v1), (2, .int v2)] [] A := by
  unfold fS_add at h
  refine xg_iload_n (pc := 0) (i := 1) B dS_add_0 rfl rfl ?_
  refine xg_aload_n (pc := 1) (i := 0) (r := v0) B dS_add_1 rfl rfl ?_
  refine xg_geti (pc := 2) B dS_add_2 flS_22 h (fun x1 ex1 h => ?_)
  refine xg_ci (pc := 5) (av := [.int v1, .int x1]) (st := []) (cy := prog_16_method_65_code) (nLy := 2) (rety := (some .int)) (hsy := []) B dS_add_5 (xj_go_s B dS_add_5 swS_28 rfl) swS_28.2.2.1 swS_28.2.2.2.1 (by decide) (by decide) (by decide) rfl (fun r9 h9 => cJ_max hl _ _ _ r9 h9) h (fun x2 A3 eA3 h => ?_)
  refine xg_istore_n (pc := 8) (i := 3) (ls' := [(3, .int x2), (0, xj_rv v0), (1, .int v1), (2, .int v2)]) B dS_add_8 rfl (by decide) ⟨xj_nq (a := 0) (i := 3) (by decide), xj_nq (a := 1) (i := 3) (by decide), fun _ => rfl, trivial⟩ rfl ?_
  refine xg_iload_n (pc := 9) (i := 2) B dS_add_9 rfl rfl ?_
  refine xg_aload_n (pc := 10) (i := 0) (r := v0) B dS_add_10 rfl rfl ?_
  refine xg_geti (pc := 11) B dS_add_11 flS_25 h (fun x4 ex4 h => ?_)
  refine xg_ci (pc := 14) (av := [.int v2, .int x4]) (st := []) (cy := prog_16_method_69_code) (nLy := 2) (rety := (some .int)) (hsy := []) B dS_add_14 (xj_go_s B dS_add_14 swS_34 rfl) swS_34.2.2.1 swS_34.2.2.2.1 (by decide) (by decide) (by decide) rfl (fun r9 h9 => cJ_min hl _ _ _ r9 h9) h (fun x5 A6 eA6 h => ?_)
  refine xg_istore (pc := 17) (i := 4) (ls' := [(4, .int x5), (3, .int x2), (0, xj_rv v0), (1, .int v1), (2, .int v2)]) B dS_add_17 (by decide) ⟨fun _ => rfl, xj_nq (a := 0) (i := 4) (by decide), xj_nq (a := 1) (i := 4) (by decide), xj_nq (a := 2) (i := 4) (by decide), trivial⟩ rfl ?_
  refine xg_iload_n (pc := 19) (i := 3) B dS_add_19 rfl rfl ?_
  refine xg_iload (pc := 20) (i := 4) B dS_add_20 rfl ?_
  refine xg_icmp_lt (pc := 22) (tgt := 26) B dS_add_22 (by decide) h (fun c22 h => ?_) (fun c22 h => ?_)
  · refine xg_aload_n (pc := 26) (i := 0) (r := v0) B dS_add_26 rfl rfl ?_
    refine xg_geti (pc := 27) B dS_add_27 flS_18 h (fun x7 ex7 h => ?_)
    refine xg_if_le (pc := 30) (tgt := 78) B dS_add_30 (by decide) h (fun c30 h => ?_) (fun c30 h => ?_)
    · refine xg_sub (ls' := [(0, xj_rv v0), (3, .int x2), (4, .int x5)]) [2, 1, 0] rfl ?_
      exact wS_add_78 hl B v0 x2 x5 A6 h
    · refine xg_iload_n (pc := 33) (i := 3) B dS_add_33 rfl rfl ?_
      refine xg_aload_n (pc := 34) (i := 0) (r := v0) B dS_add_34 rfl rfl ?_
      refine xg_getr (pc := 35) B dS_add_35 flS_15 h (fun x8 ex8 h => ?_)
      refine xg_aload_n (pc := 38) (i := 0) (r := v0) B dS_add_38 rfl rfl ?_
      refine xg_geti (pc := 39) B dS_add_39 flS_18 h (fun x9 ex9 h => ?_)
      refine xg_iconst (pc := 42) (v := 1) B dS_add_42 (by decide) ?_
      refine xg_isub (pc := 43) B dS_add_43 ?_
      refine xg_iaload (pc := 44) B dS_add_44 h (fun x10 ex10 h => ?_)
      refine xg_icmp_gt (pc := 45) (tgt := 78) B dS_add_45 (by decide) h (fun c45 h => ?_) (fun c45 h => ?_)
      · refine xg_sub (ls' := [(0, xj_rv v0), (3, .int x2), (4, .int x5)]) [2, 1, 0] rfl ?_
        exact wS_add_78 hl B v0 x2 x5 A6 h
      · refine xg_aload_n (pc := 48) (i := 0) (r := v0) B dS_add_48 rfl rfl ?_
        refine xg_getr (pc := 49) B dS_add_49 flS_15 h (fun x11 ex11 h => ?_)
        refine xg_aload_n (pc := 52) (i := 0) (r := v0) B dS_add_52 rfl rfl ?_
        refine xg_geti (pc := 53) B dS_add_53 flS_18 h (fun x12 ex12 h => ?_)
        refine xg_iconst (pc := 56) (v := 1) B dS_add_56 (by decide) ?_
        refine xg_isub (pc := 57) B dS_add_57 ?_
        refine xg_aload_n (pc := 58) (i := 0) (r := v0) B dS_add_58 rfl rfl ?_
        refine xg_getr (pc := 59) B dS_add_59 flS_15 h (fun x13 ex13 h => ?_)
        refine xg_aload_n (pc := 62) (i := 0) (r := v0) B dS_add_62 rfl rfl ?_
        refine xg_geti (pc := 63) B dS_add_63 flS_18 h (fun x14 ex14 h => ?_)
        refine xg_iconst (pc := 66) (v := 1) B dS_add_66 (by decide) ?_
        refine xg_isub (pc := 67) B dS_add_67 ?_
        refine xg_iaload (pc := 68) B dS_add_68 h (fun x15 ex15 h => ?_)
        refine xg_iload (pc := 69) (i := 4) B dS_add_69 rfl ?_
        refine xg_ci (pc := 71) (av := [.int x15, .int x5]) (st := [.int (x12 - (1 : Int32)), xj_rv x11]) (cy := prog_16_method_65_code) (nLy := 2) (rety := (some .int)) (hsy := []) B dS_add_71 (xj_go_s B dS_add_71 swS_28 rfl) swS_28.2.2.1 swS_28.2.2.2.1 (by decide) (by decide) (by simp [xj_ic, xj_lc, xj_rv_cat]) rfl (fun r9 h9 => cJ_max hl _ _ _ r9 h9) h (fun x16 A17 eA17 h => ?_)
        refine xg_iastore (pc := 74) B dS_add_74 h (fun A18 eA18 h => ?_)
        refine xg_goto (pc := 75) (tgt := 121) B dS_add_75 (by decide) ?_
        refine xg_sub (ls' := []) [] rfl ?_
        exact wS_add_121 hl B  A18 h
  · exact xg_vret B dS_add_25 h
theorem cS_add {l : Launch} (hl : l.stackTraces = false) (v0 : xj_Rf) (v1 : Int32) (v2 : Int32) (A : xj_H) (r : xj_R) (h : fS_add v0 v1 v2 A = some r) : xj_M l yS_add prog_7_method_3_code 5 none [] 2 [xj_rv v0, .int v1, .int v2] A r := by
  refine xj_M.of hl (by decide +kernel) (by simp [lg_sl, xj_ic, xj_lc, xj_rv_cat]) (fun z B hA hr => ?_)
  subst hr
  have hw := wS_add hl B v0 v1 v2 A h
  simpa [lv_args, xj_ic, xj_lc, xj_rv_cat] using hw
/-! RecurrenceBook.busy(II)I -/
def fB_busy_141 (v0 : xj_Rf) (A : xj_H) : Option xj_R :=
  (xj_gr A v0 0 6).bind fun x1 =>
  (xj_gi A x1 3 2).bind fun x2 =>
  some (.inl (some (.int x2)), A)
def fB_busy_61 : Nat → xj_Rf → Int32 → xj_H → Option xj_R
  | 0, _, _, _ => none
  | n + 1, v0, v3, A =>
    if (1600 : Int32) ≤ v3 then
      fB_busy_141 v0 A
    else
      xj_bi (xj_rq A v0 0 (fB_earliestHead v0 A)) fun x1 A2 =>
      if 0 ≤ x1 then
        (xj_gr A2 v0 0 3).bind fun x3 =>
        (xj_ral A2 x3 x1).bind fun x4 =>
        (xj_gr A2 x4 2 1).bind fun x5 =>
        (xj_gr A2 v0 0 5).bind fun x6 =>
        (xj_ai A2 x6 0 x1).bind fun x7 =>
        (xj_ai A2 x5 0 x7).bind fun x8 =>
        (xj_gr A2 v0 0 6).bind fun x9 =>
        (xj_gr A2 v0 0 3).bind fun x10 =>
        (xj_ral A2 x10 x1).bind fun x11 =>
        (xj_gi A2 x11 2 5).bind fun x12 =>
        xj_bv (xj_rq A2 x9 3 (fS_add x9 x8 (x8 + x12) A2)) fun A13 =>
        (xj_gr A13 v0 0 5).bind fun x14 =>
        (xj_ai A13 x14 0 x1).bind fun x15 =>
        (xj_as A13 x14 0 x1 (x15 + (1 : Int32))).bind fun A16 =>
        (fB_busy_61 n) v0 (v3 + 1) A16
      else
        fB_busy_141 v0 A2
def fB_busy_38 : Nat → xj_Rf → Int32 → xj_H → Option xj_R
  | 0, _, _, _ => none
  | n + 1, v0, v3, A =>
    (xj_gi A v0 0 4).bind fun x1 =>
    if x1 ≤ v3 then
      fB_busy_61 xj_fu v0 (0 : Int32) A
    else
      (xj_gr A v0 0 5).bind fun x2 =>
      (xj_as A x2 0 v3 (0 : Int32)).bind fun A3 =>
      (fB_busy_38 n) v0 (v3 + 1) A3
def fB_busy_17 (A : xj_H) : Option xj_R :=
  xj_th A "java/lang/IllegalArgumentException"
def fB_busy (v0 : xj_Rf) (v1 : Int32) (v2 : Int32) (A : xj_H) : Option xj_R :=
  if v2 ≤ v1 then
    fB_busy_17  A
  else
    if (lg_cmp ((Int32.toInt64 v2) - (Int32.toInt64 v1)) (200000 : Int64)) ≤ 0 then
      (xj_gr A v0 0 6).bind fun x1 =>
      xj_bv (xj_rq A x1 3 (fS_open x1 v1 v2 A)) fun A2 =>
      fB_busy_38 xj_fu v0 (0 : Int32) A2
    else
      fB_busy_17  A
theorem wB_busy_141 {l : Launch} (hl : l.stackTraces = false) {z : xj_F} (B : xj_B l yB_busy prog_1_method_11_code 6 (some .int) [] 6 z) (v0 : xj_Rf) (A : xj_H) (h : fB_busy_141 v0 A = some (xf_r z)) : xj_W l z 141 [(0, xj_rv v0)] [] A := by
  unfold fB_busy_141 at h
  refine xg_aload_n (pc := 141) (i := 0) (r := v0) B dB_busy_141 rfl rfl ?_
  refine xg_getr (pc := 142) B dB_busy_142 flB_45 h (fun x1 ex1 h => ?_)
  refine xg_geti (pc := 145) B dB_busy_145 flB_162 h (fun x2 ex2 h => ?_)
  exact xg_iret B dB_busy_148 h
theorem wB_busy_61 {l : Launch} (hl : l.stackTraces = false) {z : xj_F} (B : xj_B l yB_busy prog_1_method_11_code 6 (some .int) [] 6 z) : ∀ (n : Nat) (v0 : xj_Rf) (v3 : Int32) (A : xj_H), fB_busy_61 n v0 v3 A = some (xf_r z) → xj_W l z 61 [(0, xj_rv v0), (3, .int v3)] [] A
  | 0, _, _, _, h => by simp [fB_busy_61] at h
  | n + 1, v0, v3, A, h => by
    rw [fB_busy_61] at h
    refine xg_iload_n (pc := 61) (i := 3) B dB_busy_61 rfl rfl ?_
    refine xg_sipush (pc := 62) (v := 1600) B dB_busy_62 (by decide) ?_
    refine xg_icmp_ge (pc := 65) (tgt := 141) B dB_busy_65 (by decide) h (fun c65 h => ?_) (fun c65 h => ?_)
    · refine xg_sub (ls' := [(0, xj_rv v0)]) [0] rfl ?_
      exact wB_busy_141 hl B v0 A h
    · refine xg_aload_n (pc := 68) (i := 0) (r := v0) B dB_busy_68 rfl rfl ?_
      obtain ⟨hq69, h⟩ := xj_rq_i h
      refine xg_ci (pc := 69) (av := [xj_rv v0]) (st := []) (cy := prog_1_method_16_code) (nLy := 5) (rety := (some .int)) (hsy := []) B dB_busy_69 (xj_go_v B dB_busy_69 vwB_150 rfl hq69) (xj_vw_c vwB_150) (xj_vw_i vwB_150) (by decide) (by decide) (by decide) rfl (fun r9 h9 => cB_earliestHead hl _ _ r9 h9) h (fun x1 A2 eA2 h => ?_)
      refine xg_istore (pc := 72) (i := 4) (ls' := [(4, .int x1), (0, xj_rv v0), (3, .int v3)]) B dB_busy_72 (by decide) ⟨xj_nq (a := 0) (i := 4) (by decide), fun _ => rfl, trivial⟩ rfl ?_
      refine xg_iload (pc := 74) (i := 4) B dB_busy_74 rfl ?_
      refine xg_if_ge (pc := 76) (tgt := 82) B dB_busy_76 (by decide) h (fun c76 h => ?_) (fun c76 h => ?_)
      · refine xg_aload_n (pc := 82) (i := 0) (r := v0) B dB_busy_82 rfl rfl ?_
        refine xg_getr (pc := 83) B dB_busy_83 flB_30 h (fun x3 ex3 h => ?_)
        refine xg_iload (pc := 86) (i := 4) B dB_busy_86 rfl ?_
        refine xg_aaload (pc := 88) B dB_busy_88 h (fun x4 ex4 h => ?_)
        refine xg_getr (pc := 89) B dB_busy_89 flB_153 h (fun x5 ex5 h => ?_)
        refine xg_aload_n (pc := 92) (i := 0) (r := v0) B dB_busy_92 rfl rfl ?_
        refine xg_getr (pc := 93) B dB_busy_93 flB_38 h (fun x6 ex6 h => ?_)
        refine xg_iload (pc := 96) (i := 4) B dB_busy_96 rfl ?_
        refine xg_iaload (pc := 98) B dB_busy_98 h (fun x7 ex7 h => ?_)
        refine xg_iaload (pc := 99) B dB_busy_99 h (fun x8 ex8 h => ?_)
        refine xg_istore (pc := 100) (i := 5) (ls' := [(5, .int x8), (4, .int x1), (0, xj_rv v0), (3, .int v3)]) B dB_busy_100 (by decide) ⟨fun _ => rfl, xj_nq (a := 0) (i := 5) (by decide), xj_nq (a := 3) (i := 5) (by decide), trivial⟩ rfl ?_
        refine xg_aload_n (pc := 102) (i := 0) (r := v0) B dB_busy_102 rfl rfl ?_
        refine xg_getr (pc := 103) B dB_busy_103 flB_45 h (fun x9 ex9 h => ?_)
        refine xg_iload (pc := 106) (i := 5) B dB_busy_106 rfl ?_
        refine xg_iload (pc := 108) (i := 5) B dB_busy_108 rfl ?_
        refine xg_aload_n (pc := 110) (i := 0) (r := v0) B dB_busy_110 rfl rfl ?_
        refine xg_getr (pc := 111) B dB_busy_111 flB_30 h (fun x10 ex10 h => ?_)
        refine xg_iload (pc := 114) (i := 4) B dB_busy_114 rfl ?_
        refine xg_aaload (pc := 116) B dB_busy_116 h (fun x11 ex11 h => ?_)
        refine xg_geti (pc := 117) B dB_busy_117 flB_156 h (fun x12 ex12 h => ?_)
        refine xg_iadd (pc := 120) B dB_busy_120 ?_
        obtain ⟨hq121, h⟩ := xj_rq_v h
        refine xg_cv (pc := 121) (av := [xj_rv x9, .int x8, .int (x8 + x12)]) (st := []) (cy := prog_7_method_3_code) (nLy := 5) (rety := none) (hsy := []) B dB_busy_121 (xj_go_v B dB_busy_121 vwB_159 rfl hq121) (xj_vw_c vwB_159) (xj_vw_i vwB_159) (by decide) (by decide) (by decide) rfl (fun r9 h9 => cS_add hl _ _ _ _ r9 h9) h (fun A13 eA13 h => ?_)
        refine xg_aload_n (pc := 124) (i := 0) (r := v0) B dB_busy_124 rfl rfl ?_
        refine xg_getr (pc := 125) B dB_busy_125 flB_38 h (fun x14 ex14 h => ?_)
        refine xg_iload (pc := 128) (i := 4) B dB_busy_128 rfl ?_
        refine xg_dup2 (pc := 130) B dB_busy_130 rfl (xj_rv_cat x14) ?_
        refine xg_iaload (pc := 131) B dB_busy_131 h (fun x15 ex15 h => ?_)
        refine xg_iconst (pc := 132) (v := 1) B dB_busy_132 (by decide) ?_
        refine xg_iadd (pc := 133) B dB_busy_133 ?_
        refine xg_iastore (pc := 134) B dB_busy_134 h (fun A16 eA16 h => ?_)
        refine xg_iinc (pc := 135) (i := 3) (v := (v3 + 1)) (ls' := [(3, .int (v3 + 1)), (5, .int x8), (4, .int x1), (0, xj_rv v0)]) B dB_busy_135 rfl (xj_inc_1 _) (by decide) ⟨xj_nq (a := 5) (i := 3) (by decide), xj_nq (a := 4) (i := 3) (by decide), xj_nq (a := 0) (i := 3) (by decide), xj_nq (a := 3) (i := 3) (by decide), trivial⟩ rfl ?_
        refine xg_goto (pc := 138) (tgt := 61) B dB_busy_138 (by decide) ?_
        refine xg_sub (ls' := [(0, xj_rv v0), (3, .int (v3 + 1))]) [3, 0] rfl ?_
        exact (wB_busy_61 hl B n) v0 (v3 + 1) A16 h
      · refine xg_goto (pc := 79) (tgt := 141) B dB_busy_79 (by decide) ?_
        refine xg_sub (ls' := [(0, xj_rv v0)]) [1] rfl ?_
        exact wB_busy_141 hl B v0 A2 h
theorem wB_busy_38 {l : Launch} (hl : l.stackTraces = false) {z : xj_F} (B : xj_B l yB_busy prog_1_method_11_code 6 (some .int) [] 6 z) : ∀ (n : Nat) (v0 : xj_Rf) (v3 : Int32) (A : xj_H), fB_busy_38 n v0 v3 A = some (xf_r z) → xj_W l z 38 [(0, xj_rv v0), (3, .int v3)] [] A
  | 0, _, _, _, h => by simp [fB_busy_38] at h
  | n + 1, v0, v3, A, h => by
    rw [fB_busy_38] at h
    refine xg_iload_n (pc := 38) (i := 3) B dB_busy_38 rfl rfl ?_
    refine xg_aload_n (pc := 39) (i := 0) (r := v0) B dB_busy_39 rfl rfl ?_
    refine xg_geti (pc := 40) B dB_busy_40 flB_35 h (fun x1 ex1 h => ?_)
    refine xg_icmp_ge (pc := 43) (tgt := 59) B dB_busy_43 (by decide) h (fun c43 h => ?_) (fun c43 h => ?_)
    · refine xg_iconst (pc := 59) (v := 0) B dB_busy_59 (by decide) ?_
      refine xg_istore_n (pc := 60) (i := 3) (ls' := [(3, .int (0 : Int32)), (0, xj_rv v0)]) B dB_busy_60 rfl (by decide) ⟨xj_nq (a := 0) (i := 3) (by decide), xj_nq (a := 3) (i := 3) (by decide), trivial⟩ rfl ?_
      refine xg_sub (ls' := [(0, xj_rv v0), (3, .int (0 : Int32))]) [1, 0] rfl ?_
      exact wB_busy_61 hl B xj_fu v0 (0 : Int32) A h
    · refine xg_aload_n (pc := 46) (i := 0) (r := v0) B dB_busy_46 rfl rfl ?_
      refine xg_getr (pc := 47) B dB_busy_47 flB_38 h (fun x2 ex2 h => ?_)
      refine xg_iload_n (pc := 50) (i := 3) B dB_busy_50 rfl rfl ?_
      refine xg_iconst (pc := 51) (v := 0) B dB_busy_51 (by decide) ?_
      refine xg_iastore (pc := 52) B dB_busy_52 h (fun A3 eA3 h => ?_)
      refine xg_iinc (pc := 53) (i := 3) (v := (v3 + 1)) (ls' := [(3, .int (v3 + 1)), (0, xj_rv v0)]) B dB_busy_53 rfl (xj_inc_1 _) (by decide) ⟨xj_nq (a := 0) (i := 3) (by decide), xj_nq (a := 3) (i := 3) (by decide), trivial⟩ rfl ?_
      refine xg_goto (pc := 56) (tgt := 38) B dB_busy_56 (by decide) ?_
      refine xg_sub (ls' := [(0, xj_rv v0), (3, .int (v3 + 1))]) [1, 0] rfl ?_
      exact (wB_busy_38 hl B n) v0 (v3 + 1) A3 h
theorem wB_busy_17 {l : Launch} (hl : l.stackTraces = false) {z : xj_F} (B : xj_B l yB_busy prog_1_method_11_code 6 (some .int) [] 6 z) (A : xj_H) (h : fB_busy_17  A = some (xf_r z)) : xj_W l z 17 [] [] A := by
  unfold fB_busy_17 at h
  exact xg_throw (pc := 17) B dB_busy_17 dB_busy_20 dB_busy_21 dB_busy_23 dB_busy_26 xwB_53_144_57 (by decide) rfl h
theorem wB_busy {l : Launch} (hl : l.stackTraces = false) {z : xj_F} (B : xj_B l yB_busy prog_1_method_11_code 6 (some .int) [] 6 z) (v0 : xj_Rf) (v1 : Int32) (v2 : Int32) (A : xj_H) (h : fB_busy v0 v1 v2 A = some (xf_r z)) : xj_W l z 0 [(0, xj_rv v0), (1, .int v1), (2, .int v2)] [] A := by
  unfold fB_busy at h
  refine xg_iload_n (pc := 0) (i := 2) B dB_busy_0 rfl rfl ?_
  refine xg_iload_n (pc := 1) (i := 1) B dB_busy_1 rfl rfl ?_
  refine xg_icmp_le (pc := 2) (tgt := 17) B dB_busy_2 (by decide) h (fun c2 h => ?_) (fun c2 h => ?_)
  · refine xg_sub (ls' := []) [] rfl ?_
    exact wB_busy_17 hl B  A h
  · refine xg_iload_n (pc := 5) (i := 2) B dB_busy_5 rfl rfl ?_
    refine xg_i2l (pc := 6) B dB_busy_6 ?_
    refine xg_iload_n (pc := 7) (i := 1) B dB_busy_7 rfl rfl ?_
    refine xg_i2l (pc := 8) B dB_busy_8 ?_
    refine xg_lsub (pc := 9) B dB_busy_9 ?_
    refine xg_ldc2 (pc := 10) (v := 200000) B dB_busy_10 kB_142 ?_
    refine xg_lcmp (pc := 13) B dB_busy_13 ?_
    refine xg_if_le (pc := 14) (tgt := 27) B dB_busy_14 (by decide) h (fun c14 h => ?_) (fun c14 h => ?_)
    · refine xg_aload_n (pc := 27) (i := 0) (r := v0) B dB_busy_27 rfl rfl ?_
      refine xg_getr (pc := 28) B dB_busy_28 flB_45 h (fun x1 ex1 h => ?_)
      refine xg_iload_n (pc := 31) (i := 1) B dB_busy_31 rfl rfl ?_
      refine xg_iload_n (pc := 32) (i := 2) B dB_busy_32 rfl rfl ?_
      obtain ⟨hq33, h⟩ := xj_rq_v h
      refine xg_cv (pc := 33) (av := [xj_rv x1, .int v1, .int v2]) (st := []) (cy := prog_7_method_2_code) (nLy := 3) (rety := none) (hsy := []) B dB_busy_33 (xj_go_v B dB_busy_33 vwB_146 rfl hq33) (xj_vw_c vwB_146) (xj_vw_i vwB_146) (by decide) (by decide) (by decide) rfl (fun r9 h9 => cS_open hl _ _ _ _ r9 h9) h (fun A2 eA2 h => ?_)
      refine xg_iconst (pc := 36) (v := 0) B dB_busy_36 (by decide) ?_
      refine xg_istore_n (pc := 37) (i := 3) (ls' := [(3, .int (0 : Int32)), (0, xj_rv v0), (1, .int v1), (2, .int v2)]) B dB_busy_37 rfl (by decide) ⟨xj_nq (a := 0) (i := 3) (by decide), xj_nq (a := 1) (i := 3) (by decide), fun _ => rfl, trivial⟩ rfl ?_
      refine xg_sub (ls' := [(0, xj_rv v0), (3, .int (0 : Int32))]) [1, 0] rfl ?_
      exact wB_busy_38 hl B xj_fu v0 (0 : Int32) A2 h
    · refine xg_sub (ls' := []) [] rfl ?_
      exact wB_busy_17 hl B  A h
theorem cB_busy {l : Launch} (hl : l.stackTraces = false) (v0 : xj_Rf) (v1 : Int32) (v2 : Int32) (A : xj_H) (r : xj_R) (h : fB_busy v0 v1 v2 A = some r) : xj_M l yB_busy prog_1_method_11_code 6 (some .int) [] 6 [xj_rv v0, .int v1, .int v2] A r := by
  refine xj_M.of hl (by decide +kernel) (by simp [lg_sl, xj_ic, xj_lc, xj_rv_cat]) (fun z B hA hr => ?_)
  subst hr
  have hw := wB_busy hl B v0 v1 v2 A h
  simpa [lv_args, xj_ic, xj_lc, xj_rv_cat] using hw
/-! RecurrenceBook.span(IZ)I -/
def fB_span_50 (s0 : Int32) (A : xj_H) : Option xj_R :=
  some (.inl (some (.int s0)), A)
def fB_span_15 (A : xj_H) : Option xj_R :=
  xj_th A "java/util/NoSuchElementException"
def fB_span (v0 : xj_Rf) (v1 : Int32) (v2 : Int32) (A : xj_H) : Option xj_R :=
  if v1 < 0 then
    fB_span_15  A
  else
    (xj_gr A v0 0 6).bind fun x1 =>
    (xj_gi A x1 3 2).bind fun x2 =>
    if v1 < x2 then
      if v2 = 0 then
        (xj_gr A v0 0 6).bind fun x3 =>
        (xj_gr A x3 3 0).bind fun x4 =>
        (xj_ai A x4 0 v1).bind fun x5 =>
        fB_span_50 x5 A
      else
        (xj_gr A v0 0 6).bind fun x6 =>
        (xj_gr A x6 3 1).bind fun x7 =>
        (xj_ai A x7 0 v1).bind fun x8 =>
        fB_span_50 x8 A
    else
      fB_span_15  A
theorem wB_span_50 {l : Launch} (hl : l.stackTraces = false) {z : xj_F} (B : xj_B l yB_span prog_1_method_12_code 3 (some .int) [] 6 z) (s0 : Int32) (A : xj_H) (h : fB_span_50 s0 A = some (xf_r z)) : xj_W l z 50 [] [.int s0] A := by
  unfold fB_span_50 at h
  exact xg_iret B dB_span_50 h
theorem wB_span_15 {l : Launch} (hl : l.stackTraces = false) {z : xj_F} (B : xj_B l yB_span prog_1_method_12_code 3 (some .int) [] 6 z) (A : xj_H) (h : fB_span_15  A = some (xf_r z)) : xj_W l z 15 [] [] A := by
  unfold fB_span_15 at h
  exact xg_throw (pc := 15) B dB_span_15 dB_span_18 dB_span_19 dB_span_21 dB_span_24 xwB_163_165_167 (by decide) rfl h
theorem wB_span {l : Launch} (hl : l.stackTraces = false) {z : xj_F} (B : xj_B l yB_span prog_1_method_12_code 3 (some .int) [] 6 z) (v0 : xj_Rf) (v1 : Int32) (v2 : Int32) (A : xj_H) (h : fB_span v0 v1 v2 A = some (xf_r z)) : xj_W l z 0 [(0, xj_rv v0), (1, .int v1), (2, .int v2)] [] A := by
  unfold fB_span at h
  refine xg_iload_n (pc := 0) (i := 1) B dB_span_0 rfl rfl ?_
  refine xg_if_lt (pc := 1) (tgt := 15) B dB_span_1 (by decide) h (fun c1 h => ?_) (fun c1 h => ?_)
  · refine xg_sub (ls' := []) [] rfl ?_
    exact wB_span_15 hl B  A h
  · refine xg_iload_n (pc := 4) (i := 1) B dB_span_4 rfl rfl ?_
    refine xg_aload_n (pc := 5) (i := 0) (r := v0) B dB_span_5 rfl rfl ?_
    refine xg_getr (pc := 6) B dB_span_6 flB_45 h (fun x1 ex1 h => ?_)
    refine xg_geti (pc := 9) B dB_span_9 flB_162 h (fun x2 ex2 h => ?_)
    refine xg_icmp_lt (pc := 12) (tgt := 25) B dB_span_12 (by decide) h (fun c12 h => ?_) (fun c12 h => ?_)
    · refine xg_iload_n (pc := 25) (i := 2) B dB_span_25 rfl rfl ?_
      refine xg_if_eq (pc := 26) (tgt := 41) B dB_span_26 (by decide) h (fun c26 h => ?_) (fun c26 h => ?_)
      · refine xg_aload_n (pc := 41) (i := 0) (r := v0) B dB_span_41 rfl rfl ?_
        refine xg_getr (pc := 42) B dB_span_42 flB_45 h (fun x3 ex3 h => ?_)
        refine xg_getr (pc := 45) B dB_span_45 flB_171 h (fun x4 ex4 h => ?_)
        refine xg_iload_n (pc := 48) (i := 1) B dB_span_48 rfl rfl ?_
        refine xg_iaload (pc := 49) B dB_span_49 h (fun x5 ex5 h => ?_)
        refine xg_sub (ls' := []) [] rfl ?_
        exact wB_span_50 hl B x5 A h
      · refine xg_aload_n (pc := 29) (i := 0) (r := v0) B dB_span_29 rfl rfl ?_
        refine xg_getr (pc := 30) B dB_span_30 flB_45 h (fun x6 ex6 h => ?_)
        refine xg_getr (pc := 33) B dB_span_33 flB_168 h (fun x7 ex7 h => ?_)
        refine xg_iload_n (pc := 36) (i := 1) B dB_span_36 rfl rfl ?_
        refine xg_iaload (pc := 37) B dB_span_37 h (fun x8 ex8 h => ?_)
        refine xg_goto (pc := 38) (tgt := 50) B dB_span_38 (by decide) ?_
        refine xg_sub (ls' := []) [] rfl ?_
        exact wB_span_50 hl B x8 A h
    · refine xg_sub (ls' := []) [] rfl ?_
      exact wB_span_15 hl B  A h
theorem cB_span {l : Launch} (hl : l.stackTraces = false) (v0 : xj_Rf) (v1 : Int32) (v2 : Int32) (A : xj_H) (r : xj_R) (h : fB_span v0 v1 v2 A = some r) : xj_M l yB_span prog_1_method_12_code 3 (some .int) [] 6 [xj_rv v0, .int v1, .int v2] A r := by
  refine xj_M.of hl (by decide +kernel) (by simp [lg_sl, xj_ic, xj_lc, xj_rv_cat]) (fun z B hA hr => ?_)
  subst hr
  have hw := wB_span hl B v0 v1 v2 A h
  simpa [lv_args, xj_ic, xj_lc, xj_rv_cat] using hw
/-! RecurrenceBook.firstShared(LRecurrenceBook$Event;LRecurrenceBook$Event;)I -/
def fB_firstShared_83 (A : xj_H) : Option xj_R :=
  some (.inl (some (.int (-1 : Int32))), A)
def fB_firstShared_80 (k4 : xj_Rf → xj_Rf → Int32 → Int32 → xj_H → Option xj_R) (v0 : xj_Rf) (v1 : xj_Rf) (v2 : Int32) (v3 : Int32) (A : xj_H) : Option xj_R :=
  k4 v0 v1 v2 v3 A
def fB_firstShared_4 : Nat → xj_Rf → xj_Rf → Int32 → Int32 → xj_H → Option xj_R
  | 0, _, _, _, _, _ => none
  | n + 1, v0, v1, v2, v3, A =>
    (xj_gi A v0 2 2).bind fun x1 =>
    if x1 ≤ v2 then
      fB_firstShared_83  A
    else
      (xj_gi A v1 2 2).bind fun x2 =>
      if x2 ≤ v3 then
        fB_firstShared_83  A
      else
        (xj_gr A v0 2 1).bind fun x3 =>
        (xj_ai A x3 0 v2).bind fun x4 =>
        (xj_gr A v1 2 1).bind fun x5 =>
        (xj_ai A x5 0 v3).bind fun x6 =>
        (xj_gi A v0 2 5).bind fun x7 =>
        if x6 < (x4 + x7) then
          (xj_gi A v1 2 5).bind fun x8 =>
          if x4 < (x6 + x8) then
            xj_bi (fJ_max x4 x6 A) fun x9 A10 =>
            some (.inl (some (.int x9)), A10)
          else
            fB_firstShared_80 (fB_firstShared_4 n) v0 v1 v2 (v3 + 1) A
        else
          fB_firstShared_80 (fB_firstShared_4 n) v0 v1 (v2 + 1) v3 A
def fB_firstShared (v0 : xj_Rf) (v1 : xj_Rf) (A : xj_H) : Option xj_R :=
  fB_firstShared_4 xj_fu v0 v1 (0 : Int32) (0 : Int32) A
theorem wB_firstShared_83 {l : Launch} (hl : l.stackTraces = false) {z : xj_F} (B : xj_B l yB_firstShared prog_1_method_17_code 6 (some .int) [] 2 z) (A : xj_H) (h : fB_firstShared_83  A = some (xf_r z)) : xj_W l z 83 [] [] A := by
  unfold fB_firstShared_83 at h
  refine xg_iconst (pc := 83) (v := -1) B dB_firstShared_83 (by decide) ?_
  exact xg_iret B dB_firstShared_84 h
theorem wB_firstShared_80 {l : Launch} (hl : l.stackTraces = false) {z : xj_F} (B : xj_B l yB_firstShared prog_1_method_17_code 6 (some .int) [] 2 z) (k4 : xj_Rf → xj_Rf → Int32 → Int32 → xj_H → Option xj_R) (hk4 : ∀ (v0 : xj_Rf) (v1 : xj_Rf) (v2 : Int32) (v3 : Int32) (A : xj_H), k4 v0 v1 v2 v3 A = some (xf_r z) → xj_W l z 4 [(0, xj_rv v0), (1, xj_rv v1), (2, .int v2), (3, .int v3)] [] A) (v0 : xj_Rf) (v1 : xj_Rf) (v2 : Int32) (v3 : Int32) (A : xj_H) (h : fB_firstShared_80 k4 v0 v1 v2 v3 A = some (xf_r z)) : xj_W l z 80 [(0, xj_rv v0), (1, xj_rv v1), (2, .int v2), (3, .int v3)] [] A := by
  unfold fB_firstShared_80 at h
  refine xg_goto (pc := 80) (tgt := 4) B dB_firstShared_80 (by decide) ?_
  exact hk4 v0 v1 v2 v3 A h
theorem wB_firstShared_4 {l : Launch} (hl : l.stackTraces = false) {z : xj_F} (B : xj_B l yB_firstShared prog_1_method_17_code 6 (some .int) [] 2 z) : ∀ (n : Nat) (v0 : xj_Rf) (v1 : xj_Rf) (v2 : Int32) (v3 : Int32) (A : xj_H), fB_firstShared_4 n v0 v1 v2 v3 A = some (xf_r z) → xj_W l z 4 [(0, xj_rv v0), (1, xj_rv v1), (2, .int v2), (3, .int v3)] [] A
  | 0, _, _, _, _, _, h => by simp [fB_firstShared_4] at h
  | n + 1, v0, v1, v2, v3, A, h => by
    rw [fB_firstShared_4] at h
    refine xg_iload_n (pc := 4) (i := 2) B dB_firstShared_4 rfl rfl ?_
    refine xg_aload_n (pc := 5) (i := 0) (r := v0) B dB_firstShared_5 rfl rfl ?_
    refine xg_geti (pc := 6) B dB_firstShared_6 flB_119 h (fun x1 ex1 h => ?_)
    refine xg_icmp_ge (pc := 9) (tgt := 83) B dB_firstShared_9 (by decide) h (fun c9 h => ?_) (fun c9 h => ?_)
    · refine xg_sub (ls' := []) [] rfl ?_
      exact wB_firstShared_83 hl B  A h
    · refine xg_iload_n (pc := 12) (i := 3) B dB_firstShared_12 rfl rfl ?_
      refine xg_aload_n (pc := 13) (i := 1) (r := v1) B dB_firstShared_13 rfl rfl ?_
      refine xg_geti (pc := 14) B dB_firstShared_14 flB_119 h (fun x2 ex2 h => ?_)
      refine xg_icmp_ge (pc := 17) (tgt := 83) B dB_firstShared_17 (by decide) h (fun c17 h => ?_) (fun c17 h => ?_)
      · refine xg_sub (ls' := []) [] rfl ?_
        exact wB_firstShared_83 hl B  A h
      · refine xg_aload_n (pc := 20) (i := 0) (r := v0) B dB_firstShared_20 rfl rfl ?_
        refine xg_getr (pc := 21) B dB_firstShared_21 flB_153 h (fun x3 ex3 h => ?_)
        refine xg_iload_n (pc := 24) (i := 2) B dB_firstShared_24 rfl rfl ?_
        refine xg_iaload (pc := 25) B dB_firstShared_25 h (fun x4 ex4 h => ?_)
        refine xg_istore (pc := 26) (i := 4) (ls' := [(4, .int x4), (0, xj_rv v0), (1, xj_rv v1), (2, .int v2), (3, .int v3)]) B dB_firstShared_26 (by decide) ⟨xj_nq (a := 0) (i := 4) (by decide), xj_nq (a := 1) (i := 4) (by decide), xj_nq (a := 2) (i := 4) (by decide), fun _ => rfl, trivial⟩ rfl ?_
        refine xg_aload_n (pc := 28) (i := 1) (r := v1) B dB_firstShared_28 rfl rfl ?_
        refine xg_getr (pc := 29) B dB_firstShared_29 flB_153 h (fun x5 ex5 h => ?_)
        refine xg_iload_n (pc := 32) (i := 3) B dB_firstShared_32 rfl rfl ?_
        refine xg_iaload (pc := 33) B dB_firstShared_33 h (fun x6 ex6 h => ?_)
        refine xg_istore (pc := 34) (i := 5) (ls' := [(5, .int x6), (4, .int x4), (0, xj_rv v0), (1, xj_rv v1), (2, .int v2), (3, .int v3)]) B dB_firstShared_34 (by decide) ⟨fun _ => rfl, xj_nq (a := 0) (i := 5) (by decide), xj_nq (a := 1) (i := 5) (by decide), xj_nq (a := 2) (i := 5) (by decide), xj_nq (a := 3) (i := 5) (by decide), trivial⟩ rfl ?_
        refine xg_iload (pc := 36) (i := 4) B dB_firstShared_36 rfl ?_
        refine xg_aload_n (pc := 38) (i := 0) (r := v0) B dB_firstShared_38 rfl rfl ?_
        refine xg_geti (pc := 39) B dB_firstShared_39 flB_156 h (fun x7 ex7 h => ?_)
        refine xg_iadd (pc := 42) B dB_firstShared_42 ?_
        refine xg_iload (pc := 43) (i := 5) B dB_firstShared_43 rfl ?_
        refine xg_icmp_gt (pc := 45) (tgt := 54) B dB_firstShared_45 (by decide) h (fun c45 h => ?_) (fun c45 h => ?_)
        · refine xg_iload (pc := 54) (i := 5) B dB_firstShared_54 rfl ?_
          refine xg_aload_n (pc := 56) (i := 1) (r := v1) B dB_firstShared_56 rfl rfl ?_
          refine xg_geti (pc := 57) B dB_firstShared_57 flB_156 h (fun x8 ex8 h => ?_)
          refine xg_iadd (pc := 60) B dB_firstShared_60 ?_
          refine xg_iload (pc := 61) (i := 4) B dB_firstShared_61 rfl ?_
          refine xg_icmp_gt (pc := 63) (tgt := 72) B dB_firstShared_63 (by decide) h (fun c63 h => ?_) (fun c63 h => ?_)
          · refine xg_iload (pc := 72) (i := 4) B dB_firstShared_72 rfl ?_
            refine xg_iload (pc := 74) (i := 5) B dB_firstShared_74 rfl ?_
            refine xg_ci (pc := 76) (av := [.int x4, .int x6]) (st := []) (cy := prog_16_method_65_code) (nLy := 2) (rety := (some .int)) (hsy := []) B dB_firstShared_76 (xj_go_s B dB_firstShared_76 swB_182 rfl) swB_182.2.2.1 swB_182.2.2.2.1 (by decide) (by decide) (by decide) rfl (fun r9 h9 => cJ_max hl _ _ _ r9 h9) h (fun x9 A10 eA10 h => ?_)
            exact xg_iret B dB_firstShared_79 h
          · refine xg_iinc (pc := 66) (i := 3) (v := (v3 + 1)) (ls' := [(3, .int (v3 + 1)), (5, .int x6), (4, .int x4), (0, xj_rv v0), (1, xj_rv v1), (2, .int v2)]) B dB_firstShared_66 rfl (xj_inc_1 _) (by decide) ⟨xj_nq (a := 5) (i := 3) (by decide), xj_nq (a := 4) (i := 3) (by decide), xj_nq (a := 0) (i := 3) (by decide), xj_nq (a := 1) (i := 3) (by decide), fun _ => rfl, xj_nq (a := 3) (i := 3) (by decide), trivial⟩ rfl ?_
            refine xg_goto (pc := 69) (tgt := 80) B dB_firstShared_69 (by decide) ?_
            refine xg_sub (ls' := [(0, xj_rv v0), (1, xj_rv v1), (2, .int v2), (3, .int (v3 + 1))]) [3, 4, 5, 0] rfl ?_
            exact wB_firstShared_80 hl B (fB_firstShared_4 n) (wB_firstShared_4 hl B n) v0 v1 v2 (v3 + 1) A h
        · refine xg_iinc (pc := 48) (i := 2) (v := (v2 + 1)) (ls' := [(2, .int (v2 + 1)), (5, .int x6), (4, .int x4), (0, xj_rv v0), (1, xj_rv v1), (3, .int v3)]) B dB_firstShared_48 rfl (xj_inc_1 _) (by decide) ⟨xj_nq (a := 5) (i := 2) (by decide), xj_nq (a := 4) (i := 2) (by decide), xj_nq (a := 0) (i := 2) (by decide), fun _ => xj_rv_cat v1, xj_nq (a := 2) (i := 2) (by decide), xj_nq (a := 3) (i := 2) (by decide), trivial⟩ rfl ?_
          refine xg_goto (pc := 51) (tgt := 80) B dB_firstShared_51 (by decide) ?_
          refine xg_sub (ls' := [(0, xj_rv v0), (1, xj_rv v1), (2, .int (v2 + 1)), (3, .int v3)]) [3, 4, 0, 5] rfl ?_
          exact wB_firstShared_80 hl B (fB_firstShared_4 n) (wB_firstShared_4 hl B n) v0 v1 (v2 + 1) v3 A h
theorem wB_firstShared {l : Launch} (hl : l.stackTraces = false) {z : xj_F} (B : xj_B l yB_firstShared prog_1_method_17_code 6 (some .int) [] 2 z) (v0 : xj_Rf) (v1 : xj_Rf) (A : xj_H) (h : fB_firstShared v0 v1 A = some (xf_r z)) : xj_W l z 0 [(0, xj_rv v0), (1, xj_rv v1)] [] A := by
  unfold fB_firstShared at h
  refine xg_iconst (pc := 0) (v := 0) B dB_firstShared_0 (by decide) ?_
  refine xg_istore_n (pc := 1) (i := 2) (ls' := [(2, .int (0 : Int32)), (0, xj_rv v0), (1, xj_rv v1)]) B dB_firstShared_1 rfl (by decide) ⟨xj_nq (a := 0) (i := 2) (by decide), fun _ => xj_rv_cat v1, trivial⟩ rfl ?_
  refine xg_iconst (pc := 2) (v := 0) B dB_firstShared_2 (by decide) ?_
  refine xg_istore_n (pc := 3) (i := 3) (ls' := [(3, .int (0 : Int32)), (2, .int (0 : Int32)), (0, xj_rv v0), (1, xj_rv v1)]) B dB_firstShared_3 rfl (by decide) ⟨fun _ => rfl, xj_nq (a := 0) (i := 3) (by decide), xj_nq (a := 1) (i := 3) (by decide), trivial⟩ rfl ?_
  refine xg_sub (ls' := [(0, xj_rv v0), (1, xj_rv v1), (2, .int (0 : Int32)), (3, .int (0 : Int32))]) [2, 3, 1, 0] rfl ?_
  exact wB_firstShared_4 hl B xj_fu v0 v1 (0 : Int32) (0 : Int32) A h
theorem cB_firstShared {l : Launch} (hl : l.stackTraces = false) (v0 : xj_Rf) (v1 : xj_Rf) (A : xj_H) (r : xj_R) (h : fB_firstShared v0 v1 A = some r) : xj_M l yB_firstShared prog_1_method_17_code 6 (some .int) [] 2 [xj_rv v0, xj_rv v1] A r := by
  refine xj_M.of hl (by decide +kernel) (by simp [lg_sl, xj_ic, xj_lc, xj_rv_cat]) (fun z B hA hr => ?_)
  subst hr
  have hw := wB_firstShared hl B v0 v1 A h
  simpa [lv_args, xj_ic, xj_lc, xj_rv_cat] using hw
/-! RecurrenceBook.clash(II)I -/
def fB_clash (v0 : xj_Rf) (v1 : Int32) (v2 : Int32) (A : xj_H) : Option xj_R :=
  xj_br (xj_rq A v0 0 (fB_findEvent v0 v1 A)) fun x1 A2 =>
  xj_br (xj_rq A2 v0 0 (fB_findEvent v0 v2 A2)) fun x3 A4 =>
  xj_bi (fB_firstShared x1 x3 A4) fun x5 A6 =>
  some (.inl (some (.int x5)), A6)
theorem wB_clash {l : Launch} (hl : l.stackTraces = false) {z : xj_F} (B : xj_B l yB_clash prog_1_method_13_code 3 (some .int) [] 7 z) (v0 : xj_Rf) (v1 : Int32) (v2 : Int32) (A : xj_H) (h : fB_clash v0 v1 v2 A = some (xf_r z)) : xj_W l z 0 [(0, xj_rv v0), (1, .int v1), (2, .int v2)] [] A := by
  unfold fB_clash at h
  refine xg_aload_n (pc := 0) (i := 0) (r := v0) B dB_clash_0 rfl rfl ?_
  refine xg_iload_n (pc := 1) (i := 1) B dB_clash_1 rfl rfl ?_
  obtain ⟨hq2, h⟩ := xj_rq_r h
  refine xg_cr (pc := 2) (av := [xj_rv v0, .int v1]) (st := []) (cy := prog_1_method_14_code) (nLy := 2) (rety := (some (.object "RecurrenceBook$Event"))) (hsy := []) B dB_clash_2 (xj_go_v B dB_clash_2 vwB_112 rfl hq2) (xj_vw_c vwB_112) (xj_vw_i vwB_112) (by decide) (by decide) (by decide) rfl (fun r9 h9 => cB_findEvent hl _ _ _ r9 h9) h (fun x1 A2 eA2 h => ?_)
  refine xg_aload_n (pc := 5) (i := 0) (r := v0) B dB_clash_5 rfl rfl ?_
  refine xg_iload_n (pc := 6) (i := 2) B dB_clash_6 rfl rfl ?_
  obtain ⟨hq7, h⟩ := xj_rq_r h
  refine xg_cr (pc := 7) (av := [xj_rv v0, .int v2]) (st := [xj_rv x1]) (cy := prog_1_method_14_code) (nLy := 2) (rety := (some (.object "RecurrenceBook$Event"))) (hsy := []) B dB_clash_7 (xj_go_v B dB_clash_7 vwB_112 rfl hq7) (xj_vw_c vwB_112) (xj_vw_i vwB_112) (by decide) (by decide) (by simp [xj_ic, xj_lc, xj_rv_cat]) rfl (fun r9 h9 => cB_findEvent hl _ _ _ r9 h9) h (fun x3 A4 eA4 h => ?_)
  refine xg_ci (pc := 10) (av := [xj_rv x1, xj_rv x3]) (st := []) (cy := prog_1_method_17_code) (nLy := 6) (rety := (some .int)) (hsy := []) B dB_clash_10 (xj_go_s B dB_clash_10 swB_174 rfl) swB_174.2.2.1 swB_174.2.2.2.1 (by decide) (by decide) (by decide) rfl (fun r9 h9 => cB_firstShared hl _ _ _ r9 h9) h (fun x5 A6 eA6 h => ?_)
  exact xg_iret B dB_clash_13 h
theorem cB_clash {l : Launch} (hl : l.stackTraces = false) (v0 : xj_Rf) (v1 : Int32) (v2 : Int32) (A : xj_H) (r : xj_R) (h : fB_clash v0 v1 v2 A = some r) : xj_M l yB_clash prog_1_method_13_code 3 (some .int) [] 7 [xj_rv v0, .int v1, .int v2] A r := by
  refine xj_M.of hl (by decide +kernel) (by simp [lg_sl, xj_ic, xj_lc, xj_rv_cat]) (fun z B hA hr => ?_)
  subst hr
  have hw := wB_clash hl B v0 v1 v2 A h
  simpa [lv_args, xj_ic, xj_lc, xj_rv_cat] using hw
/-! RecurrenceBookModel.yearBegin(I)I -/
def fM_yearBegin_26 (s0 : Int32) (s1 : Int32) (A : xj_H) : Option xj_R :=
  some (.inl (some (.int (s1 + s0))), A)
def fM_yearBegin (v0 : Int32) (A : xj_H) : Option xj_R :=
  if ¬ (v0 % (4 : Int32)) = 0 then
    fM_yearBegin_26 (((v0 % (4 : Int32)) * (365 : Int32)) + (1 : Int32)) ((v0 / (4 : Int32)) * (1461 : Int32)) A
  else
    fM_yearBegin_26 (0 : Int32) ((v0 / (4 : Int32)) * (1461 : Int32)) A
theorem wM_yearBegin_26 {l : Launch} (hl : l.stackTraces = false) {z : xj_F} (B : xj_B l yM_yearBegin prog_11_method_4_code 1 (some .int) [] 1 z) (s0 : Int32) (s1 : Int32) (A : xj_H) (h : fM_yearBegin_26 s0 s1 A = some (xf_r z)) : xj_W l z 26 [] [.int s0, .int s1] A := by
  unfold fM_yearBegin_26 at h
  refine xg_iadd (pc := 26) B dM_yearBegin_26 ?_
  exact xg_iret B dM_yearBegin_27 h
theorem wM_yearBegin {l : Launch} (hl : l.stackTraces = false) {z : xj_F} (B : xj_B l yM_yearBegin prog_11_method_4_code 1 (some .int) [] 1 z) (v0 : Int32) (A : xj_H) (h : fM_yearBegin v0 A = some (xf_r z)) : xj_W l z 0 [(0, .int v0)] [] A := by
  unfold fM_yearBegin at h
  refine xg_iload_n (pc := 0) (i := 0) B dM_yearBegin_0 rfl rfl ?_
  refine xg_iconst (pc := 1) (v := 4) B dM_yearBegin_1 (by decide) ?_
  refine xg_idiv (pc := 2) B dM_yearBegin_2 (by decide) ?_
  refine xg_sipush (pc := 3) (v := 1461) B dM_yearBegin_3 (by decide) ?_
  refine xg_imul (pc := 6) B dM_yearBegin_6 ?_
  refine xg_iload_n (pc := 7) (i := 0) B dM_yearBegin_7 rfl rfl ?_
  refine xg_iconst (pc := 8) (v := 4) B dM_yearBegin_8 (by decide) ?_
  refine xg_irem (pc := 9) B dM_yearBegin_9 (by decide) ?_
  refine xg_if_ne (pc := 10) (tgt := 17) B dM_yearBegin_10 (by decide) h (fun c10 h => ?_) (fun c10 h => ?_)
  · refine xg_iload_n (pc := 17) (i := 0) B dM_yearBegin_17 rfl rfl ?_
    refine xg_iconst (pc := 18) (v := 4) B dM_yearBegin_18 (by decide) ?_
    refine xg_irem (pc := 19) B dM_yearBegin_19 (by decide) ?_
    refine xg_sipush (pc := 20) (v := 365) B dM_yearBegin_20 (by decide) ?_
    refine xg_imul (pc := 23) B dM_yearBegin_23 ?_
    refine xg_iconst (pc := 24) (v := 1) B dM_yearBegin_24 (by decide) ?_
    refine xg_iadd (pc := 25) B dM_yearBegin_25 ?_
    refine xg_sub (ls' := []) [] rfl ?_
    exact wM_yearBegin_26 hl B (((v0 % (4 : Int32)) * (365 : Int32)) + (1 : Int32)) ((v0 / (4 : Int32)) * (1461 : Int32)) A h
  · refine xg_iconst (pc := 13) (v := 0) B dM_yearBegin_13 (by decide) ?_
    refine xg_goto (pc := 14) (tgt := 26) B dM_yearBegin_14 (by decide) ?_
    refine xg_sub (ls' := []) [] rfl ?_
    exact wM_yearBegin_26 hl B (0 : Int32) ((v0 / (4 : Int32)) * (1461 : Int32)) A h
theorem cM_yearBegin {l : Launch} (hl : l.stackTraces = false) (v0 : Int32) (A : xj_H) (r : xj_R) (h : fM_yearBegin v0 A = some r) : xj_M l yM_yearBegin prog_11_method_4_code 1 (some .int) [] 1 [.int v0] A r := by
  refine xj_M.of hl (by decide +kernel) (by simp [lg_sl, xj_ic, xj_lc, xj_rv_cat]) (fun z B hA hr => ?_)
  subst hr
  have hw := wM_yearBegin hl B v0 A h
  simpa [lv_args, xj_ic, xj_lc, xj_rv_cat] using hw
/-! RecurrenceBookModel.monthLength(II)I -/
def fM_monthLength_49 (s0 : Int32) (A : xj_H) : Option xj_R :=
  some (.inl (some (.int s0)), A)
def fM_monthLength_42 (A : xj_H) : Option xj_R :=
  fM_monthLength_49 (30 : Int32) A
def fM_monthLength_18 (s0 : Int32) (A : xj_H) : Option xj_R :=
  some (.inl (some (.int s0)), A)
def fM_monthLength (v0 : Int32) (v1 : Int32) (A : xj_H) : Option xj_R :=
  if ¬ v1 = (2 : Int32) then
    if v1 = (4 : Int32) then
      fM_monthLength_42  A
    else
      if v1 = (6 : Int32) then
        fM_monthLength_42  A
      else
        if v1 = (9 : Int32) then
          fM_monthLength_42  A
        else
          if ¬ v1 = (11 : Int32) then
            fM_monthLength_49 (31 : Int32) A
          else
            fM_monthLength_42  A
  else
    if ¬ (v0 % (4 : Int32)) = 0 then
      fM_monthLength_18 (28 : Int32) A
    else
      fM_monthLength_18 (29 : Int32) A
theorem wM_monthLength_49 {l : Launch} (hl : l.stackTraces = false) {z : xj_F} (B : xj_B l yM_monthLength prog_11_method_5_code 2 (some .int) [] 1 z) (s0 : Int32) (A : xj_H) (h : fM_monthLength_49 s0 A = some (xf_r z)) : xj_W l z 49 [] [.int s0] A := by
  unfold fM_monthLength_49 at h
  exact xg_iret B dM_monthLength_49 h
theorem wM_monthLength_42 {l : Launch} (hl : l.stackTraces = false) {z : xj_F} (B : xj_B l yM_monthLength prog_11_method_5_code 2 (some .int) [] 1 z) (A : xj_H) (h : fM_monthLength_42  A = some (xf_r z)) : xj_W l z 42 [] [] A := by
  unfold fM_monthLength_42 at h
  refine xg_bipush (pc := 42) (v := 30) B dM_monthLength_42 (by decide) ?_
  refine xg_goto (pc := 44) (tgt := 49) B dM_monthLength_44 (by decide) ?_
  exact wM_monthLength_49 hl B (30 : Int32) A h
theorem wM_monthLength_18 {l : Launch} (hl : l.stackTraces = false) {z : xj_F} (B : xj_B l yM_monthLength prog_11_method_5_code 2 (some .int) [] 1 z) (s0 : Int32) (A : xj_H) (h : fM_monthLength_18 s0 A = some (xf_r z)) : xj_W l z 18 [] [.int s0] A := by
  unfold fM_monthLength_18 at h
  exact xg_iret B dM_monthLength_18 h
theorem wM_monthLength {l : Launch} (hl : l.stackTraces = false) {z : xj_F} (B : xj_B l yM_monthLength prog_11_method_5_code 2 (some .int) [] 1 z) (v0 : Int32) (v1 : Int32) (A : xj_H) (h : fM_monthLength v0 v1 A = some (xf_r z)) : xj_W l z 0 [(0, .int v0), (1, .int v1)] [] A := by
  unfold fM_monthLength at h
  refine xg_iload_n (pc := 0) (i := 1) B dM_monthLength_0 rfl rfl ?_
  refine xg_iconst (pc := 1) (v := 2) B dM_monthLength_1 (by decide) ?_
  refine xg_icmp_ne (pc := 2) (tgt := 19) B dM_monthLength_2 (by decide) h (fun c2 h => ?_) (fun c2 h => ?_)
  · refine xg_iload_n (pc := 19) (i := 1) B dM_monthLength_19 rfl rfl ?_
    refine xg_iconst (pc := 20) (v := 4) B dM_monthLength_20 (by decide) ?_
    refine xg_icmp_eq (pc := 21) (tgt := 42) B dM_monthLength_21 (by decide) h (fun c21 h => ?_) (fun c21 h => ?_)
    · refine xg_sub (ls' := []) [] rfl ?_
      exact wM_monthLength_42 hl B  A h
    · refine xg_iload_n (pc := 24) (i := 1) B dM_monthLength_24 rfl rfl ?_
      refine xg_bipush (pc := 25) (v := 6) B dM_monthLength_25 (by decide) ?_
      refine xg_icmp_eq (pc := 27) (tgt := 42) B dM_monthLength_27 (by decide) h (fun c27 h => ?_) (fun c27 h => ?_)
      · refine xg_sub (ls' := []) [] rfl ?_
        exact wM_monthLength_42 hl B  A h
      · refine xg_iload_n (pc := 30) (i := 1) B dM_monthLength_30 rfl rfl ?_
        refine xg_bipush (pc := 31) (v := 9) B dM_monthLength_31 (by decide) ?_
        refine xg_icmp_eq (pc := 33) (tgt := 42) B dM_monthLength_33 (by decide) h (fun c33 h => ?_) (fun c33 h => ?_)
        · refine xg_sub (ls' := []) [] rfl ?_
          exact wM_monthLength_42 hl B  A h
        · refine xg_iload_n (pc := 36) (i := 1) B dM_monthLength_36 rfl rfl ?_
          refine xg_bipush (pc := 37) (v := 11) B dM_monthLength_37 (by decide) ?_
          refine xg_icmp_ne (pc := 39) (tgt := 47) B dM_monthLength_39 (by decide) h (fun c39 h => ?_) (fun c39 h => ?_)
          · refine xg_bipush (pc := 47) (v := 31) B dM_monthLength_47 (by decide) ?_
            refine xg_sub (ls' := []) [] rfl ?_
            exact wM_monthLength_49 hl B (31 : Int32) A h
          · refine xg_sub (ls' := []) [] rfl ?_
            exact wM_monthLength_42 hl B  A h
  · refine xg_iload_n (pc := 5) (i := 0) B dM_monthLength_5 rfl rfl ?_
    refine xg_iconst (pc := 6) (v := 4) B dM_monthLength_6 (by decide) ?_
    refine xg_irem (pc := 7) B dM_monthLength_7 (by decide) ?_
    refine xg_if_ne (pc := 8) (tgt := 16) B dM_monthLength_8 (by decide) h (fun c8 h => ?_) (fun c8 h => ?_)
    · refine xg_bipush (pc := 16) (v := 28) B dM_monthLength_16 (by decide) ?_
      refine xg_sub (ls' := []) [] rfl ?_
      exact wM_monthLength_18 hl B (28 : Int32) A h
    · refine xg_bipush (pc := 11) (v := 29) B dM_monthLength_11 (by decide) ?_
      refine xg_goto (pc := 13) (tgt := 18) B dM_monthLength_13 (by decide) ?_
      refine xg_sub (ls' := []) [] rfl ?_
      exact wM_monthLength_18 hl B (29 : Int32) A h
theorem cM_monthLength {l : Launch} (hl : l.stackTraces = false) (v0 : Int32) (v1 : Int32) (A : xj_H) (r : xj_R) (h : fM_monthLength v0 v1 A = some r) : xj_M l yM_monthLength prog_11_method_5_code 2 (some .int) [] 1 [.int v0, .int v1] A r := by
  refine xj_M.of hl (by decide +kernel) (by simp [lg_sl, xj_ic, xj_lc, xj_rv_cat]) (fun z B hA hr => ?_)
  subst hr
  have hw := wM_monthLength hl B v0 v1 A h
  simpa [lv_args, xj_ic, xj_lc, xj_rv_cat] using hw
/-! RecurrenceBookModel.dayOf(III)I -/
def fM_dayOf_12 : Nat → Int32 → Int32 → Int32 → Int32 → xj_H → Option xj_R
  | 0, _, _, _, _, _ => none
  | n + 1, v0, v1, v3, v4, A =>
    if v1 ≤ v4 then
      some (.inl (some (.int v3)), A)
    else
      xj_bi (fM_monthLength v0 v4 A) fun x1 A2 =>
      (fM_dayOf_12 n) v0 v1 (v3 + x1) (v4 + 1) A2
def fM_dayOf (v0 : Int32) (v1 : Int32) (v2 : Int32) (A : xj_H) : Option xj_R :=
  xj_bi (fM_yearBegin v0 A) fun x1 A2 =>
  fM_dayOf_12 xj_fu v0 v1 ((x1 + v2) - (1 : Int32)) (1 : Int32) A2
theorem wM_dayOf_12 {l : Launch} (hl : l.stackTraces = false) {z : xj_F} (B : xj_B l yM_dayOf prog_11_method_7_code 5 (some .int) [] 2 z) : ∀ (n : Nat) (v0 : Int32) (v1 : Int32) (v3 : Int32) (v4 : Int32) (A : xj_H), fM_dayOf_12 n v0 v1 v3 v4 A = some (xf_r z) → xj_W l z 12 [(0, .int v0), (1, .int v1), (3, .int v3), (4, .int v4)] [] A
  | 0, _, _, _, _, _, h => by simp [fM_dayOf_12] at h
  | n + 1, v0, v1, v3, v4, A, h => by
    rw [fM_dayOf_12] at h
    refine xg_iload (pc := 12) (i := 4) B dM_dayOf_12 rfl ?_
    refine xg_iload_n (pc := 14) (i := 1) B dM_dayOf_14 rfl rfl ?_
    refine xg_icmp_ge (pc := 15) (tgt := 33) B dM_dayOf_15 (by decide) h (fun c15 h => ?_) (fun c15 h => ?_)
    · refine xg_iload_n (pc := 33) (i := 3) B dM_dayOf_33 rfl rfl ?_
      exact xg_iret B dM_dayOf_34 h
    · refine xg_iload_n (pc := 18) (i := 3) B dM_dayOf_18 rfl rfl ?_
      refine xg_iload_n (pc := 19) (i := 0) B dM_dayOf_19 rfl rfl ?_
      refine xg_iload (pc := 20) (i := 4) B dM_dayOf_20 rfl ?_
      refine xg_ci (pc := 22) (av := [.int v0, .int v4]) (st := [.int v3]) (cy := prog_11_method_5_code) (nLy := 2) (rety := (some .int)) (hsy := []) B dM_dayOf_22 (xj_go_s B dM_dayOf_22 swM_74 rfl) swM_74.2.2.1 swM_74.2.2.2.1 (by decide) (by decide) (by simp [xj_ic, xj_lc, xj_rv_cat]) rfl (fun r9 h9 => cM_monthLength hl _ _ _ r9 h9) h (fun x1 A2 eA2 h => ?_)
      refine xg_iadd (pc := 25) B dM_dayOf_25 ?_
      refine xg_istore_n (pc := 26) (i := 3) (ls' := [(3, .int (v3 + x1)), (0, .int v0), (1, .int v1), (4, .int v4)]) B dM_dayOf_26 rfl (by decide) ⟨xj_nq (a := 0) (i := 3) (by decide), xj_nq (a := 1) (i := 3) (by decide), xj_nq (a := 3) (i := 3) (by decide), xj_nq (a := 4) (i := 3) (by decide), trivial⟩ rfl ?_
      refine xg_iinc (pc := 27) (i := 4) (v := (v4 + 1)) (ls' := [(4, .int (v4 + 1)), (3, .int (v3 + x1)), (0, .int v0), (1, .int v1)]) B dM_dayOf_27 rfl (xj_inc_1 _) (by decide) ⟨fun _ => rfl, xj_nq (a := 0) (i := 4) (by decide), xj_nq (a := 1) (i := 4) (by decide), xj_nq (a := 4) (i := 4) (by decide), trivial⟩ rfl ?_
      refine xg_goto (pc := 30) (tgt := 12) B dM_dayOf_30 (by decide) ?_
      refine xg_sub (ls' := [(0, .int v0), (1, .int v1), (3, .int (v3 + x1)), (4, .int (v4 + 1))]) [2, 3, 1, 0] rfl ?_
      exact (wM_dayOf_12 hl B n) v0 v1 (v3 + x1) (v4 + 1) A2 h
theorem wM_dayOf {l : Launch} (hl : l.stackTraces = false) {z : xj_F} (B : xj_B l yM_dayOf prog_11_method_7_code 5 (some .int) [] 2 z) (v0 : Int32) (v1 : Int32) (v2 : Int32) (A : xj_H) (h : fM_dayOf v0 v1 v2 A = some (xf_r z)) : xj_W l z 0 [(0, .int v0), (1, .int v1), (2, .int v2)] [] A := by
  unfold fM_dayOf at h
  refine xg_iload_n (pc := 0) (i := 0) B dM_dayOf_0 rfl rfl ?_
  refine xg_ci (pc := 1) (av := [.int v0]) (st := []) (cy := prog_11_method_4_code) (nLy := 1) (rety := (some .int)) (hsy := []) B dM_dayOf_1 (xj_go_s B dM_dayOf_1 swM_67 rfl) swM_67.2.2.1 swM_67.2.2.2.1 (by decide) (by decide) (by decide) rfl (fun r9 h9 => cM_yearBegin hl _ _ r9 h9) h (fun x1 A2 eA2 h => ?_)
  refine xg_iload_n (pc := 4) (i := 2) B dM_dayOf_4 rfl rfl ?_
  refine xg_iadd (pc := 5) B dM_dayOf_5 ?_
  refine xg_iconst (pc := 6) (v := 1) B dM_dayOf_6 (by decide) ?_
  refine xg_isub (pc := 7) B dM_dayOf_7 ?_
  refine xg_istore_n (pc := 8) (i := 3) (ls' := [(3, .int ((x1 + v2) - (1 : Int32))), (0, .int v0), (1, .int v1), (2, .int v2)]) B dM_dayOf_8 rfl (by decide) ⟨xj_nq (a := 0) (i := 3) (by decide), xj_nq (a := 1) (i := 3) (by decide), fun _ => rfl, trivial⟩ rfl ?_
  refine xg_iconst (pc := 9) (v := 1) B dM_dayOf_9 (by decide) ?_
  refine xg_istore (pc := 10) (i := 4) (ls' := [(4, .int (1 : Int32)), (3, .int ((x1 + v2) - (1 : Int32))), (0, .int v0), (1, .int v1), (2, .int v2)]) B dM_dayOf_10 (by decide) ⟨fun _ => rfl, xj_nq (a := 0) (i := 4) (by decide), xj_nq (a := 1) (i := 4) (by decide), xj_nq (a := 2) (i := 4) (by decide), trivial⟩ rfl ?_
  refine xg_sub (ls' := [(0, .int v0), (1, .int v1), (3, .int ((x1 + v2) - (1 : Int32))), (4, .int (1 : Int32))]) [2, 3, 1, 0] rfl ?_
  exact wM_dayOf_12 hl B xj_fu v0 v1 ((x1 + v2) - (1 : Int32)) (1 : Int32) A2 h
theorem cM_dayOf {l : Launch} (hl : l.stackTraces = false) (v0 : Int32) (v1 : Int32) (v2 : Int32) (A : xj_H) (r : xj_R) (h : fM_dayOf v0 v1 v2 A = some r) : xj_M l yM_dayOf prog_11_method_7_code 5 (some .int) [] 2 [.int v0, .int v1, .int v2] A r := by
  refine xj_M.of hl (by decide +kernel) (by simp [lg_sl, xj_ic, xj_lc, xj_rv_cat]) (fun z B hA hr => ?_)
  subst hr
  have hw := wM_dayOf hl B v0 v1 v2 A h
  simpa [lv_args, xj_ic, xj_lc, xj_rv_cat] using hw
/-! RecurrenceBookModel.weekday(I)I -/
def fM_weekday (v0 : Int32) (A : xj_H) : Option xj_R :=
  some (.inl (some (.int ((v0 + (5 : Int32)) % (7 : Int32)))), A)
theorem wM_weekday {l : Launch} (hl : l.stackTraces = false) {z : xj_F} (B : xj_B l yM_weekday prog_11_method_9_code 1 (some .int) [] 1 z) (v0 : Int32) (A : xj_H) (h : fM_weekday v0 A = some (xf_r z)) : xj_W l z 0 [(0, .int v0)] [] A := by
  unfold fM_weekday at h
  refine xg_iload_n (pc := 0) (i := 0) B dM_weekday_0 rfl rfl ?_
  refine xg_iconst (pc := 1) (v := 5) B dM_weekday_1 (by decide) ?_
  refine xg_iadd (pc := 2) B dM_weekday_2 ?_
  refine xg_bipush (pc := 3) (v := 7) B dM_weekday_3 (by decide) ?_
  refine xg_irem (pc := 5) B dM_weekday_5 (by decide) ?_
  exact xg_iret B dM_weekday_6 h
theorem cM_weekday {l : Launch} (hl : l.stackTraces = false) (v0 : Int32) (A : xj_H) (r : xj_R) (h : fM_weekday v0 A = some r) : xj_M l yM_weekday prog_11_method_9_code 1 (some .int) [] 1 [.int v0] A r := by
  refine xj_M.of hl (by decide +kernel) (by simp [lg_sl, xj_ic, xj_lc, xj_rv_cat]) (fun z B hA hr => ?_)
  subst hr
  have hw := wM_weekday hl B v0 A h
  simpa [lv_args, xj_ic, xj_lc, xj_rv_cat] using hw
/-! RecurrenceBookModel.sunday(III)I -/
def fM_sunday_52 (s0 : Int32) (A : xj_H) : Option xj_R :=
  some (.inl (some (.int s0)), A)
def fM_sunday_50 (v4 : Int32) (A : xj_H) : Option xj_R :=
  fM_sunday_52 v4 A
def fM_sunday (v0 : Int32) (v1 : Int32) (v2 : Int32) (A : xj_H) : Option xj_R :=
  xj_bi (fM_dayOf v0 v1 (1 : Int32) A) fun x1 A2 =>
  xj_bi (fM_weekday x1 A2) fun x3 A4 =>
  if ¬ v2 = (5 : Int32) then
    fM_sunday_50 (((x1 + (6 : Int32)) - x3) + ((7 : Int32) * (v2 - (1 : Int32)))) A4
  else
    xj_bi (fM_monthLength v0 v1 A4) fun x5 A6 =>
    if (((x1 + (6 : Int32)) - x3) + ((7 : Int32) * (v2 - (1 : Int32)))) < (x1 + x5) then
      fM_sunday_50 (((x1 + (6 : Int32)) - x3) + ((7 : Int32) * (v2 - (1 : Int32)))) A6
    else
      fM_sunday_52 ((((x1 + (6 : Int32)) - x3) + ((7 : Int32) * (v2 - (1 : Int32)))) - (7 : Int32)) A6
theorem wM_sunday_52 {l : Launch} (hl : l.stackTraces = false) {z : xj_F} (B : xj_B l yM_sunday prog_11_method_11_code 5 (some .int) [] 3 z) (s0 : Int32) (A : xj_H) (h : fM_sunday_52 s0 A = some (xf_r z)) : xj_W l z 52 [] [.int s0] A := by
  unfold fM_sunday_52 at h
  exact xg_iret B dM_sunday_52 h
theorem wM_sunday_50 {l : Launch} (hl : l.stackTraces = false) {z : xj_F} (B : xj_B l yM_sunday prog_11_method_11_code 5 (some .int) [] 3 z) (v4 : Int32) (A : xj_H) (h : fM_sunday_50 v4 A = some (xf_r z)) : xj_W l z 50 [(4, .int v4)] [] A := by
  unfold fM_sunday_50 at h
  refine xg_iload (pc := 50) (i := 4) B dM_sunday_50 rfl ?_
  refine xg_sub (ls' := []) [] rfl ?_
  exact wM_sunday_52 hl B v4 A h
theorem wM_sunday {l : Launch} (hl : l.stackTraces = false) {z : xj_F} (B : xj_B l yM_sunday prog_11_method_11_code 5 (some .int) [] 3 z) (v0 : Int32) (v1 : Int32) (v2 : Int32) (A : xj_H) (h : fM_sunday v0 v1 v2 A = some (xf_r z)) : xj_W l z 0 [(0, .int v0), (1, .int v1), (2, .int v2)] [] A := by
  unfold fM_sunday at h
  refine xg_iload_n (pc := 0) (i := 0) B dM_sunday_0 rfl rfl ?_
  refine xg_iload_n (pc := 1) (i := 1) B dM_sunday_1 rfl rfl ?_
  refine xg_iconst (pc := 2) (v := 1) B dM_sunday_2 (by decide) ?_
  refine xg_ci (pc := 3) (av := [.int v0, .int v1, .int (1 : Int32)]) (st := []) (cy := prog_11_method_7_code) (nLy := 5) (rety := (some .int)) (hsy := []) B dM_sunday_3 (xj_go_s B dM_sunday_3 swM_85 rfl) swM_85.2.2.1 swM_85.2.2.2.1 (by decide) (by decide) (by decide) rfl (fun r9 h9 => cM_dayOf hl _ _ _ _ r9 h9) h (fun x1 A2 eA2 h => ?_)
  refine xg_istore_n (pc := 6) (i := 3) (ls' := [(3, .int x1), (0, .int v0), (1, .int v1), (2, .int v2)]) B dM_sunday_6 rfl (by decide) ⟨xj_nq (a := 0) (i := 3) (by decide), xj_nq (a := 1) (i := 3) (by decide), fun _ => rfl, trivial⟩ rfl ?_
  refine xg_iload_n (pc := 7) (i := 3) B dM_sunday_7 rfl rfl ?_
  refine xg_bipush (pc := 8) (v := 6) B dM_sunday_8 (by decide) ?_
  refine xg_iadd (pc := 10) B dM_sunday_10 ?_
  refine xg_iload_n (pc := 11) (i := 3) B dM_sunday_11 rfl rfl ?_
  refine xg_ci (pc := 12) (av := [.int x1]) (st := [.int (x1 + (6 : Int32))]) (cy := prog_11_method_9_code) (nLy := 1) (rety := (some .int)) (hsy := []) B dM_sunday_12 (xj_go_s B dM_sunday_12 swM_89 rfl) swM_89.2.2.1 swM_89.2.2.2.1 (by decide) (by decide) (by simp [xj_ic, xj_lc, xj_rv_cat]) rfl (fun r9 h9 => cM_weekday hl _ _ r9 h9) h (fun x3 A4 eA4 h => ?_)
  refine xg_isub (pc := 15) B dM_sunday_15 ?_
  refine xg_bipush (pc := 16) (v := 7) B dM_sunday_16 (by decide) ?_
  refine xg_iload_n (pc := 18) (i := 2) B dM_sunday_18 rfl rfl ?_
  refine xg_iconst (pc := 19) (v := 1) B dM_sunday_19 (by decide) ?_
  refine xg_isub (pc := 20) B dM_sunday_20 ?_
  refine xg_imul (pc := 21) B dM_sunday_21 ?_
  refine xg_iadd (pc := 22) B dM_sunday_22 ?_
  refine xg_istore (pc := 23) (i := 4) (ls' := [(4, .int (((x1 + (6 : Int32)) - x3) + ((7 : Int32) * (v2 - (1 : Int32))))), (3, .int x1), (0, .int v0), (1, .int v1), (2, .int v2)]) B dM_sunday_23 (by decide) ⟨fun _ => rfl, xj_nq (a := 0) (i := 4) (by decide), xj_nq (a := 1) (i := 4) (by decide), xj_nq (a := 2) (i := 4) (by decide), trivial⟩ rfl ?_
  refine xg_iload_n (pc := 25) (i := 2) B dM_sunday_25 rfl rfl ?_
  refine xg_iconst (pc := 26) (v := 5) B dM_sunday_26 (by decide) ?_
  refine xg_icmp_ne (pc := 27) (tgt := 50) B dM_sunday_27 (by decide) h (fun c27 h => ?_) (fun c27 h => ?_)
  · refine xg_sub (ls' := [(4, .int (((x1 + (6 : Int32)) - x3) + ((7 : Int32) * (v2 - (1 : Int32)))))]) [0] rfl ?_
    exact wM_sunday_50 hl B (((x1 + (6 : Int32)) - x3) + ((7 : Int32) * (v2 - (1 : Int32)))) A4 h
  · refine xg_iload (pc := 30) (i := 4) B dM_sunday_30 rfl ?_
    refine xg_iload_n (pc := 32) (i := 3) B dM_sunday_32 rfl rfl ?_
    refine xg_iload_n (pc := 33) (i := 0) B dM_sunday_33 rfl rfl ?_
    refine xg_iload_n (pc := 34) (i := 1) B dM_sunday_34 rfl rfl ?_
    refine xg_ci (pc := 35) (av := [.int v0, .int v1]) (st := [.int x1, .int (((x1 + (6 : Int32)) - x3) + ((7 : Int32) * (v2 - (1 : Int32))))]) (cy := prog_11_method_5_code) (nLy := 2) (rety := (some .int)) (hsy := []) B dM_sunday_35 (xj_go_s B dM_sunday_35 swM_74 rfl) swM_74.2.2.1 swM_74.2.2.2.1 (by decide) (by decide) (by simp [xj_ic, xj_lc, xj_rv_cat]) rfl (fun r9 h9 => cM_monthLength hl _ _ _ r9 h9) h (fun x5 A6 eA6 h => ?_)
    refine xg_iadd (pc := 38) B dM_sunday_38 ?_
    refine xg_icmp_lt (pc := 39) (tgt := 50) B dM_sunday_39 (by decide) h (fun c39 h => ?_) (fun c39 h => ?_)
    · refine xg_sub (ls' := [(4, .int (((x1 + (6 : Int32)) - x3) + ((7 : Int32) * (v2 - (1 : Int32)))))]) [0] rfl ?_
      exact wM_sunday_50 hl B (((x1 + (6 : Int32)) - x3) + ((7 : Int32) * (v2 - (1 : Int32)))) A6 h
    · refine xg_iload (pc := 42) (i := 4) B dM_sunday_42 rfl ?_
      refine xg_bipush (pc := 44) (v := 7) B dM_sunday_44 (by decide) ?_
      refine xg_isub (pc := 46) B dM_sunday_46 ?_
      refine xg_goto (pc := 47) (tgt := 52) B dM_sunday_47 (by decide) ?_
      refine xg_sub (ls' := []) [] rfl ?_
      exact wM_sunday_52 hl B ((((x1 + (6 : Int32)) - x3) + ((7 : Int32) * (v2 - (1 : Int32)))) - (7 : Int32)) A6 h
theorem cM_sunday {l : Launch} (hl : l.stackTraces = false) (v0 : Int32) (v1 : Int32) (v2 : Int32) (A : xj_H) (r : xj_R) (h : fM_sunday v0 v1 v2 A = some r) : xj_M l yM_sunday prog_11_method_11_code 5 (some .int) [] 3 [.int v0, .int v1, .int v2] A r := by
  refine xj_M.of hl (by decide +kernel) (by simp [lg_sl, xj_ic, xj_lc, xj_rv_cat]) (fun z B hA hr => ?_)
  subst hr
  have hw := wM_sunday hl B v0 v1 v2 A h
  simpa [lv_args, xj_ic, xj_lc, xj_rv_cat] using hw
/-! RecurrenceBookModel.changes(IIII)V -/
def fM_changes_3 : Nat → xj_Rf → Int32 → Int32 → Int32 → Int32 → Int32 → xj_H → Option xj_R
  | 0, _, _, _, _, _, _, _ => none
  | n + 1, v0, v1, v2, v3, v4, v5, A =>
    if (100 : Int32) ≤ v5 then
      some (.inl none, A)
    else
      (xj_gr A v0 7 5).bind fun x1 =>
      xj_bi (fM_sunday v5 v1 v2 A) fun x2 A3 =>
      (xj_gi A3 v0 7 3).bind fun x4 =>
      (xj_as A3 x1 0 v5 ((((1440 : Int32) * x2) + (120 : Int32)) - x4)).bind fun A5 =>
      (xj_gr A5 v0 7 6).bind fun x6 =>
      xj_bi (fM_sunday v5 v3 v4 A5) fun x7 A8 =>
      (xj_gi A8 v0 7 4).bind fun x9 =>
      (xj_as A8 x6 0 v5 ((((1440 : Int32) * x7) + (180 : Int32)) - x9)).bind fun A10 =>
      (fM_changes_3 n) v0 v1 v2 v3 v4 (v5 + 1) A10
def fM_changes (v0 : xj_Rf) (v1 : Int32) (v2 : Int32) (v3 : Int32) (v4 : Int32) (A : xj_H) : Option xj_R :=
  fM_changes_3 xj_fu v0 v1 v2 v3 v4 (0 : Int32) A
theorem wM_changes_3 {l : Launch} (hl : l.stackTraces = false) {z : xj_F} (B : xj_B l yM_changes prog_11_method_12_code 6 none [] 4 z) : ∀ (n : Nat) (v0 : xj_Rf) (v1 : Int32) (v2 : Int32) (v3 : Int32) (v4 : Int32) (v5 : Int32) (A : xj_H), fM_changes_3 n v0 v1 v2 v3 v4 v5 A = some (xf_r z) → xj_W l z 3 [(0, xj_rv v0), (1, .int v1), (2, .int v2), (3, .int v3), (4, .int v4), (5, .int v5)] [] A
  | 0, _, _, _, _, _, _, _, h => by simp [fM_changes_3] at h
  | n + 1, v0, v1, v2, v3, v4, v5, A, h => by
    rw [fM_changes_3] at h
    refine xg_iload (pc := 3) (i := 5) B dM_changes_3 rfl ?_
    refine xg_bipush (pc := 5) (v := 100) B dM_changes_5 (by decide) ?_
    refine xg_icmp_ge (pc := 7) (tgt := 70) B dM_changes_7 (by decide) h (fun c7 h => ?_) (fun c7 h => ?_)
    · exact xg_vret B dM_changes_70 h
    · refine xg_aload_n (pc := 10) (i := 0) (r := v0) B dM_changes_10 rfl rfl ?_
      refine xg_getr (pc := 11) B dM_changes_11 flM_13 h (fun x1 ex1 h => ?_)
      refine xg_iload (pc := 14) (i := 5) B dM_changes_14 rfl ?_
      refine xg_sipush (pc := 16) (v := 1440) B dM_changes_16 (by decide) ?_
      refine xg_iload (pc := 19) (i := 5) B dM_changes_19 rfl ?_
      refine xg_iload_n (pc := 21) (i := 1) B dM_changes_21 rfl rfl ?_
      refine xg_iload_n (pc := 22) (i := 2) B dM_changes_22 rfl rfl ?_
      refine xg_ci (pc := 23) (av := [.int v5, .int v1, .int v2]) (st := [.int (1440 : Int32), .int v5, xj_rv x1]) (cy := prog_11_method_11_code) (nLy := 5) (rety := (some .int)) (hsy := []) B dM_changes_23 (xj_go_s B dM_changes_23 swM_92 rfl) swM_92.2.2.1 swM_92.2.2.2.1 (by decide) (by decide) (by simp [xj_ic, xj_lc, xj_rv_cat]) rfl (fun r9 h9 => cM_sunday hl _ _ _ _ r9 h9) h (fun x2 A3 eA3 h => ?_)
      refine xg_imul (pc := 26) B dM_changes_26 ?_
      refine xg_bipush (pc := 27) (v := 120) B dM_changes_27 (by decide) ?_
      refine xg_iadd (pc := 29) B dM_changes_29 ?_
      refine xg_aload_n (pc := 30) (i := 0) (r := v0) B dM_changes_30 rfl rfl ?_
      refine xg_geti (pc := 31) B dM_changes_31 flM_95 h (fun x4 ex4 h => ?_)
      refine xg_isub (pc := 34) B dM_changes_34 ?_
      refine xg_iastore (pc := 35) B dM_changes_35 h (fun A5 eA5 h => ?_)
      refine xg_aload_n (pc := 36) (i := 0) (r := v0) B dM_changes_36 rfl rfl ?_
      refine xg_getr (pc := 37) B dM_changes_37 flM_16 h (fun x6 ex6 h => ?_)
      refine xg_iload (pc := 40) (i := 5) B dM_changes_40 rfl ?_
      refine xg_sipush (pc := 42) (v := 1440) B dM_changes_42 (by decide) ?_
      refine xg_iload (pc := 45) (i := 5) B dM_changes_45 rfl ?_
      refine xg_iload_n (pc := 47) (i := 3) B dM_changes_47 rfl rfl ?_
      refine xg_iload (pc := 48) (i := 4) B dM_changes_48 rfl ?_
      refine xg_ci (pc := 50) (av := [.int v5, .int v3, .int v4]) (st := [.int (1440 : Int32), .int v5, xj_rv x6]) (cy := prog_11_method_11_code) (nLy := 5) (rety := (some .int)) (hsy := []) B dM_changes_50 (xj_go_s B dM_changes_50 swM_92 rfl) swM_92.2.2.1 swM_92.2.2.2.1 (by decide) (by decide) (by simp [xj_ic, xj_lc, xj_rv_cat]) rfl (fun r9 h9 => cM_sunday hl _ _ _ _ r9 h9) h (fun x7 A8 eA8 h => ?_)
      refine xg_imul (pc := 53) B dM_changes_53 ?_
      refine xg_sipush (pc := 54) (v := 180) B dM_changes_54 (by decide) ?_
      refine xg_iadd (pc := 57) B dM_changes_57 ?_
      refine xg_aload_n (pc := 58) (i := 0) (r := v0) B dM_changes_58 rfl rfl ?_
      refine xg_geti (pc := 59) B dM_changes_59 flM_98 h (fun x9 ex9 h => ?_)
      refine xg_isub (pc := 62) B dM_changes_62 ?_
      refine xg_iastore (pc := 63) B dM_changes_63 h (fun A10 eA10 h => ?_)
      refine xg_iinc (pc := 64) (i := 5) (v := (v5 + 1)) (ls' := [(5, .int (v5 + 1)), (0, xj_rv v0), (1, .int v1), (2, .int v2), (3, .int v3), (4, .int v4)]) B dM_changes_64 rfl (xj_inc_1 _) (by decide) ⟨xj_nq (a := 0) (i := 5) (by decide), xj_nq (a := 1) (i := 5) (by decide), xj_nq (a := 2) (i := 5) (by decide), xj_nq (a := 3) (i := 5) (by decide), fun _ => rfl, xj_nq (a := 5) (i := 5) (by decide), trivial⟩ rfl ?_
      refine xg_goto (pc := 67) (tgt := 3) B dM_changes_67 (by decide) ?_
      refine xg_sub (ls' := [(0, xj_rv v0), (1, .int v1), (2, .int v2), (3, .int v3), (4, .int v4), (5, .int (v5 + 1))]) [1, 2, 3, 4, 5, 0] rfl ?_
      exact (wM_changes_3 hl B n) v0 v1 v2 v3 v4 (v5 + 1) A10 h
theorem wM_changes {l : Launch} (hl : l.stackTraces = false) {z : xj_F} (B : xj_B l yM_changes prog_11_method_12_code 6 none [] 4 z) (v0 : xj_Rf) (v1 : Int32) (v2 : Int32) (v3 : Int32) (v4 : Int32) (A : xj_H) (h : fM_changes v0 v1 v2 v3 v4 A = some (xf_r z)) : xj_W l z 0 [(0, xj_rv v0), (1, .int v1), (2, .int v2), (3, .int v3), (4, .int v4)] [] A := by
  unfold fM_changes at h
  refine xg_iconst (pc := 0) (v := 0) B dM_changes_0 (by decide) ?_
  refine xg_istore (pc := 1) (i := 5) (ls' := [(5, .int (0 : Int32)), (0, xj_rv v0), (1, .int v1), (2, .int v2), (3, .int v3), (4, .int v4)]) B dM_changes_1 (by decide) ⟨xj_nq (a := 0) (i := 5) (by decide), xj_nq (a := 1) (i := 5) (by decide), xj_nq (a := 2) (i := 5) (by decide), xj_nq (a := 3) (i := 5) (by decide), fun _ => rfl, trivial⟩ rfl ?_
  refine xg_sub (ls' := [(0, xj_rv v0), (1, .int v1), (2, .int v2), (3, .int v3), (4, .int v4), (5, .int (0 : Int32))]) [1, 2, 3, 4, 5, 0] rfl ?_
  exact wM_changes_3 hl B xj_fu v0 v1 v2 v3 v4 (0 : Int32) A h
theorem cM_changes {l : Launch} (hl : l.stackTraces = false) (v0 : xj_Rf) (v1 : Int32) (v2 : Int32) (v3 : Int32) (v4 : Int32) (A : xj_H) (r : xj_R) (h : fM_changes v0 v1 v2 v3 v4 A = some r) : xj_M l yM_changes prog_11_method_12_code 6 none [] 4 [xj_rv v0, .int v1, .int v2, .int v3, .int v4] A r := by
  refine xj_M.of hl (by decide +kernel) (by simp [lg_sl, xj_ic, xj_lc, xj_rv_cat]) (fun z B hA hr => ?_)
  subst hr
  have hw := wM_changes hl B v0 v1 v2 v3 v4 A h
  simpa [lv_args, xj_ic, xj_lc, xj_rv_cat] using hw
/-! RecurrenceBookModel.<init>()V -/
def fM_init (v0 : xj_Rf) (A : xj_H) : Option xj_R :=
  if xj_isw v0 = true then
  (xj_mk A (.inl (0, 60, .inl (fun _ => 0))) 60).bind fun A1 =>
  (xj_pv A1 v0 7 1 (xj_rv (xj_o A.1.length))).bind fun A2 =>
  (xj_mk A2 (.inl (0, 100, .inl (fun _ => 0))) 100).bind fun A3 =>
  (xj_pv A3 v0 7 5 (xj_rv (xj_o A2.1.length))).bind fun A4 =>
  (xj_mk A4 (.inl (0, 100, .inl (fun _ => 0))) 100).bind fun A5 =>
  (xj_pv A5 v0 7 6 (xj_rv (xj_o A4.1.length))).bind fun A6 =>
  (xj_mk A6 (.inl (0, 8, .inl (fun _ => 0))) 8).bind fun A7 =>
  (xj_pv A7 v0 7 8 (xj_rv (xj_o A6.1.length))).bind fun A8 =>
  (xj_mk A8 (.inl (0, 8, .inl (fun _ => 0))) 8).bind fun A9 =>
  (xj_pv A9 v0 7 9 (xj_rv (xj_o A8.1.length))).bind fun A10 =>
  (xj_mk A10 (.inl (0, 1600, .inl (fun _ => 0))) 1600).bind fun A11 =>
  (xj_pv A11 v0 7 10 (xj_rv (xj_o A10.1.length))).bind fun A12 =>
  (xj_mk A12 (.inl (0, 8, .inl (fun _ => 0))) 8).bind fun A13 =>
  (xj_pv A13 v0 7 11 (xj_rv (xj_o A12.1.length))).bind fun A14 =>
  (xj_mk A14 (.inl (0, 96, .inl (fun _ => 0))) 96).bind fun A15 =>
  (xj_pv A15 v0 7 12 (xj_rv (xj_o A14.1.length))).bind fun A16 =>
  (xj_mk A16 (.inl (0, 8, .inl (fun _ => 0))) 8).bind fun A17 =>
  (xj_pv A17 v0 7 13 (xj_rv (xj_o A16.1.length))).bind fun A18 =>
  (xj_mk A18 (.inl (2, 13, .inl (fun _ => 0))) 13).bind fun A19 =>
  (xj_pv A19 v0 7 20 (xj_rv (xj_o A18.1.length))).bind fun A20 =>
  (xj_mk A20 (.inl (0, 8, .inl (fun _ => 0))) 8).bind fun A21 =>
  (xj_pv A21 v0 7 21 (xj_rv (xj_o A20.1.length))).bind fun A22 =>
  (xj_mk A22 (.inl (0, 7, .inl (fun _ => 0))) 7).bind fun A23 =>
  (xj_pv A23 v0 7 23 (xj_rv (xj_o A22.1.length))).bind fun A24 =>
  (xj_mk A24 (.inl (0, 7, .inl (fun _ => 0))) 7).bind fun A25 =>
  (xj_pv A25 v0 7 24 (xj_rv (xj_o A24.1.length))).bind fun A26 =>
  (xj_mk A26 (.inl (0, 1600, .inl (fun _ => 0))) 1600).bind fun A27 =>
  (xj_pv A27 v0 7 34 (xj_rv (xj_o A26.1.length))).bind fun A28 =>
  (xj_mk A28 (.inl (0, 1600, .inl (fun _ => 0))) 1600).bind fun A29 =>
  (xj_pv A29 v0 7 35 (xj_rv (xj_o A28.1.length))).bind fun A30 =>
  xj_bv (xj_rq A30 v0 7 (fM_changes v0 (3 : Int32) (5 : Int32) (10 : Int32) (5 : Int32) A30)) fun A31 =>
  some (.inl none, A31)
  else none
theorem wM_init {l : Launch} (hl : l.stackTraces = false) {z : xj_F} (B : xj_B l yM_init prog_11_method_1_code 1 none [] 5 z) (v0 : xj_Rf) (A : xj_H) (h : fM_init v0 A = some (xf_r z)) : xj_W l z 0 [(0, xj_rv v0)] [] A := by
  unfold fM_init at h
  refine xg_aload_n (pc := 0) (i := 0) (r := v0) B dM_init_0 rfl rfl ?_
  obtain ⟨a1, ha1, h⟩ := xj_isw_inv h
  refine xg_objInit (pc := 1) B ha1 dM_init_1 owM_1 ow_i ow_c (by decide) (by decide) ?_
  refine xg_aload_n (pc := 4) (i := 0) (r := v0) B dM_init_4 rfl rfl ?_
  refine xg_bipush (pc := 5) (v := 60) B dM_init_5 (by decide) ?_
  refine xg_newa (pc := 7) (t := 0) (N := 60) (a1 := .inl (fun _ => 0)) B dM_init_7 rfl (fun _ => rfl) (fun _ h9 => by cases h9) aw_int (fun _ => rfl) (fun _ _ => rfl) (fun _ => trivial) (by decide) (by decide) (by decide) h (fun A1 eA1 h => ?_)
  refine xg_putr (pc := 9) B (Or.inr ⟨_, rfl⟩) dM_init_9 fpM_7 h (fun A2 eA2 h => ?_)
  refine xg_aload_n (pc := 12) (i := 0) (r := v0) B dM_init_12 rfl rfl ?_
  refine xg_bipush (pc := 13) (v := 100) B dM_init_13 (by decide) ?_
  refine xg_newa (pc := 15) (t := 0) (N := 100) (a1 := .inl (fun _ => 0)) B dM_init_15 rfl (fun _ => rfl) (fun _ h9 => by cases h9) aw_int (fun _ => rfl) (fun _ _ => rfl) (fun _ => trivial) (by decide) (by decide) (by decide) h (fun A3 eA3 h => ?_)
  refine xg_putr (pc := 17) B (Or.inr ⟨_, rfl⟩) dM_init_17 fpM_13 h (fun A4 eA4 h => ?_)
  refine xg_aload_n (pc := 20) (i := 0) (r := v0) B dM_init_20 rfl rfl ?_
  refine xg_bipush (pc := 21) (v := 100) B dM_init_21 (by decide) ?_
  refine xg_newa (pc := 23) (t := 0) (N := 100) (a1 := .inl (fun _ => 0)) B dM_init_23 rfl (fun _ => rfl) (fun _ h9 => by cases h9) aw_int (fun _ => rfl) (fun _ _ => rfl) (fun _ => trivial) (by decide) (by decide) (by decide) h (fun A5 eA5 h => ?_)
  refine xg_putr (pc := 25) B (Or.inr ⟨_, rfl⟩) dM_init_25 fpM_16 h (fun A6 eA6 h => ?_)
  refine xg_aload_n (pc := 28) (i := 0) (r := v0) B dM_init_28 rfl rfl ?_
  refine xg_bipush (pc := 29) (v := 8) B dM_init_29 (by decide) ?_
  refine xg_newa (pc := 31) (t := 0) (N := 8) (a1 := .inl (fun _ => 0)) B dM_init_31 rfl (fun _ => rfl) (fun _ h9 => by cases h9) aw_int (fun _ => rfl) (fun _ _ => rfl) (fun _ => trivial) (by decide) (by decide) (by decide) h (fun A7 eA7 h => ?_)
  refine xg_putr (pc := 33) B (Or.inr ⟨_, rfl⟩) dM_init_33 fpM_19 h (fun A8 eA8 h => ?_)
  refine xg_aload_n (pc := 36) (i := 0) (r := v0) B dM_init_36 rfl rfl ?_
  refine xg_bipush (pc := 37) (v := 8) B dM_init_37 (by decide) ?_
  refine xg_newa (pc := 39) (t := 0) (N := 8) (a1 := .inl (fun _ => 0)) B dM_init_39 rfl (fun _ => rfl) (fun _ h9 => by cases h9) aw_int (fun _ => rfl) (fun _ _ => rfl) (fun _ => trivial) (by decide) (by decide) (by decide) h (fun A9 eA9 h => ?_)
  refine xg_putr (pc := 41) B (Or.inr ⟨_, rfl⟩) dM_init_41 fpM_22 h (fun A10 eA10 h => ?_)
  refine xg_aload_n (pc := 44) (i := 0) (r := v0) B dM_init_44 rfl rfl ?_
  refine xg_sipush (pc := 45) (v := 1600) B dM_init_45 (by decide) ?_
  refine xg_newa (pc := 48) (t := 0) (N := 1600) (a1 := .inl (fun _ => 0)) B dM_init_48 rfl (fun _ => rfl) (fun _ h9 => by cases h9) aw_int (fun _ => rfl) (fun _ _ => rfl) (fun _ => trivial) (by decide) (by decide) (by decide) h (fun A11 eA11 h => ?_)
  refine xg_putr (pc := 50) B (Or.inr ⟨_, rfl⟩) dM_init_50 fpM_25 h (fun A12 eA12 h => ?_)
  refine xg_aload_n (pc := 53) (i := 0) (r := v0) B dM_init_53 rfl rfl ?_
  refine xg_bipush (pc := 54) (v := 8) B dM_init_54 (by decide) ?_
  refine xg_newa (pc := 56) (t := 0) (N := 8) (a1 := .inl (fun _ => 0)) B dM_init_56 rfl (fun _ => rfl) (fun _ h9 => by cases h9) aw_int (fun _ => rfl) (fun _ _ => rfl) (fun _ => trivial) (by decide) (by decide) (by decide) h (fun A13 eA13 h => ?_)
  refine xg_putr (pc := 58) B (Or.inr ⟨_, rfl⟩) dM_init_58 fpM_28 h (fun A14 eA14 h => ?_)
  refine xg_aload_n (pc := 61) (i := 0) (r := v0) B dM_init_61 rfl rfl ?_
  refine xg_bipush (pc := 62) (v := 96) B dM_init_62 (by decide) ?_
  refine xg_newa (pc := 64) (t := 0) (N := 96) (a1 := .inl (fun _ => 0)) B dM_init_64 rfl (fun _ => rfl) (fun _ h9 => by cases h9) aw_int (fun _ => rfl) (fun _ _ => rfl) (fun _ => trivial) (by decide) (by decide) (by decide) h (fun A15 eA15 h => ?_)
  refine xg_putr (pc := 66) B (Or.inr ⟨_, rfl⟩) dM_init_66 fpM_31 h (fun A16 eA16 h => ?_)
  refine xg_aload_n (pc := 69) (i := 0) (r := v0) B dM_init_69 rfl rfl ?_
  refine xg_bipush (pc := 70) (v := 8) B dM_init_70 (by decide) ?_
  refine xg_newa (pc := 72) (t := 0) (N := 8) (a1 := .inl (fun _ => 0)) B dM_init_72 rfl (fun _ => rfl) (fun _ h9 => by cases h9) aw_int (fun _ => rfl) (fun _ _ => rfl) (fun _ => trivial) (by decide) (by decide) (by decide) h (fun A17 eA17 h => ?_)
  refine xg_putr (pc := 74) B (Or.inr ⟨_, rfl⟩) dM_init_74 fpM_34 h (fun A18 eA18 h => ?_)
  refine xg_aload_n (pc := 77) (i := 0) (r := v0) B dM_init_77 rfl rfl ?_
  refine xg_bipush (pc := 78) (v := 13) B dM_init_78 (by decide) ?_
  refine xg_newa (pc := 80) (t := 2) (N := 13) (a1 := .inl (fun _ => 0)) B dM_init_80 rfl (fun _ => rfl) (fun _ h9 => by cases h9) aw_boolean (fun _ => rfl) (fun _ _ => rfl) (fun _ => trivial) (by decide) (by decide) (by decide) h (fun A19 eA19 h => ?_)
  refine xg_putr (pc := 82) B (Or.inr ⟨_, rfl⟩) dM_init_82 fpM_37 h (fun A20 eA20 h => ?_)
  refine xg_aload_n (pc := 85) (i := 0) (r := v0) B dM_init_85 rfl rfl ?_
  refine xg_bipush (pc := 86) (v := 8) B dM_init_86 (by decide) ?_
  refine xg_newa (pc := 88) (t := 0) (N := 8) (a1 := .inl (fun _ => 0)) B dM_init_88 rfl (fun _ => rfl) (fun _ h9 => by cases h9) aw_int (fun _ => rfl) (fun _ _ => rfl) (fun _ => trivial) (by decide) (by decide) (by decide) h (fun A21 eA21 h => ?_)
  refine xg_putr (pc := 90) B (Or.inr ⟨_, rfl⟩) dM_init_90 fpM_41 h (fun A22 eA22 h => ?_)
  refine xg_aload_n (pc := 93) (i := 0) (r := v0) B dM_init_93 rfl rfl ?_
  refine xg_bipush (pc := 94) (v := 7) B dM_init_94 (by decide) ?_
  refine xg_newa (pc := 96) (t := 0) (N := 7) (a1 := .inl (fun _ => 0)) B dM_init_96 rfl (fun _ => rfl) (fun _ h9 => by cases h9) aw_int (fun _ => rfl) (fun _ _ => rfl) (fun _ => trivial) (by decide) (by decide) (by decide) h (fun A23 eA23 h => ?_)
  refine xg_putr (pc := 98) B (Or.inr ⟨_, rfl⟩) dM_init_98 fpM_44 h (fun A24 eA24 h => ?_)
  refine xg_aload_n (pc := 101) (i := 0) (r := v0) B dM_init_101 rfl rfl ?_
  refine xg_bipush (pc := 102) (v := 7) B dM_init_102 (by decide) ?_
  refine xg_newa (pc := 104) (t := 0) (N := 7) (a1 := .inl (fun _ => 0)) B dM_init_104 rfl (fun _ => rfl) (fun _ h9 => by cases h9) aw_int (fun _ => rfl) (fun _ _ => rfl) (fun _ => trivial) (by decide) (by decide) (by decide) h (fun A25 eA25 h => ?_)
  refine xg_putr (pc := 106) B (Or.inr ⟨_, rfl⟩) dM_init_106 fpM_47 h (fun A26 eA26 h => ?_)
  refine xg_aload_n (pc := 109) (i := 0) (r := v0) B dM_init_109 rfl rfl ?_
  refine xg_sipush (pc := 110) (v := 1600) B dM_init_110 (by decide) ?_
  refine xg_newa (pc := 113) (t := 0) (N := 1600) (a1 := .inl (fun _ => 0)) B dM_init_113 rfl (fun _ => rfl) (fun _ h9 => by cases h9) aw_int (fun _ => rfl) (fun _ _ => rfl) (fun _ => trivial) (by decide) (by decide) (by decide) h (fun A27 eA27 h => ?_)
  refine xg_putr (pc := 115) B (Or.inr ⟨_, rfl⟩) dM_init_115 fpM_50 h (fun A28 eA28 h => ?_)
  refine xg_aload_n (pc := 118) (i := 0) (r := v0) B dM_init_118 rfl rfl ?_
  refine xg_sipush (pc := 119) (v := 1600) B dM_init_119 (by decide) ?_
  refine xg_newa (pc := 122) (t := 0) (N := 1600) (a1 := .inl (fun _ => 0)) B dM_init_122 rfl (fun _ => rfl) (fun _ h9 => by cases h9) aw_int (fun _ => rfl) (fun _ _ => rfl) (fun _ => trivial) (by decide) (by decide) (by decide) h (fun A29 eA29 h => ?_)
  refine xg_putr (pc := 124) B (Or.inr ⟨_, rfl⟩) dM_init_124 fpM_53 h (fun A30 eA30 h => ?_)
  refine xg_aload_n (pc := 127) (i := 0) (r := v0) B dM_init_127 rfl rfl ?_
  refine xg_iconst (pc := 128) (v := 3) B dM_init_128 (by decide) ?_
  refine xg_iconst (pc := 129) (v := 5) B dM_init_129 (by decide) ?_
  refine xg_bipush (pc := 130) (v := 10) B dM_init_130 (by decide) ?_
  refine xg_iconst (pc := 132) (v := 5) B dM_init_132 (by decide) ?_
  obtain ⟨hq133, h⟩ := xj_rq_v h
  refine xg_cv (pc := 133) (av := [xj_rv v0, .int (3 : Int32), .int (5 : Int32), .int (10 : Int32), .int (5 : Int32)]) (st := []) (cy := prog_11_method_12_code) (nLy := 6) (rety := none) (hsy := []) B dM_init_133 (xj_go_v B dM_init_133 vwM_56 rfl hq133) (xj_vw_c vwM_56) (xj_vw_i vwM_56) (by decide) (by decide) (by decide) rfl (fun r9 h9 => cM_changes hl _ _ _ _ _ _ r9 h9) h (fun A31 eA31 h => ?_)
  exact xg_vret B dM_init_136 h
theorem cM_init {l : Launch} (hl : l.stackTraces = false) (v0 : xj_Rf) (A : xj_H) (r : xj_R) (h : fM_init v0 A = some r) : xj_M l yM_init prog_11_method_1_code 1 none [] 5 [xj_rv v0] A r := by
  refine xj_M.of hl (by decide +kernel) (by simp [lg_sl, xj_ic, xj_lc, xj_rv_cat]) (fun z B hA hr => ?_)
  subst hr
  have hw := wM_init hl B v0 A h
  simpa [lv_args, xj_ic, xj_lc, xj_rv_cat] using hw
/-! RecurrenceBookModel.thrown()I -/
def fM_thrown (v0 : xj_Rf) (A : xj_H) : Option xj_R :=
  (xj_gi A v0 7 0).bind fun x1 =>
  some (.inl (some (.int x1)), A)
theorem wM_thrown {l : Launch} (hl : l.stackTraces = false) {z : xj_F} (B : xj_B l yM_thrown prog_11_method_2_code 1 (some .int) [] 1 z) (v0 : xj_Rf) (A : xj_H) (h : fM_thrown v0 A = some (xf_r z)) : xj_W l z 0 [(0, xj_rv v0)] [] A := by
  unfold fM_thrown at h
  refine xg_aload_n (pc := 0) (i := 0) (r := v0) B dM_thrown_0 rfl rfl ?_
  refine xg_geti (pc := 1) B dM_thrown_1 flM_60 h (fun x1 ex1 h => ?_)
  exact xg_iret B dM_thrown_4 h
theorem cM_thrown {l : Launch} (hl : l.stackTraces = false) (v0 : xj_Rf) (A : xj_H) (r : xj_R) (h : fM_thrown v0 A = some r) : xj_M l yM_thrown prog_11_method_2_code 1 (some .int) [] 1 [xj_rv v0] A r := by
  refine xj_M.of hl (by decide +kernel) (by simp [lg_sl, xj_ic, xj_lc, xj_rv_cat]) (fun z B hA hr => ?_)
  subst hr
  have hw := wM_thrown hl B v0 A h
  simpa [lv_args, xj_ic, xj_lc, xj_rv_cat] using hw

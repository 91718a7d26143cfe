/-! RecurrenceBookModel.fails(Z)Z -/
def fM_fails_10 (v1 : Int32) (s0 : Int32) (s1 : xj_Rf) (A : xj_H) : Option xj_R :=
  (xj_pv A s1 7 0 (.int s0)).bind fun A1 =>
  xj_rz v1 A1
def fM_fails (v0 : xj_Rf) (v1 : Int32) (A : xj_H) : Option xj_R :=
  if v1 = 0 then
    fM_fails_10 v1 (0 : Int32) v0 A
  else
    fM_fails_10 v1 (1 : Int32) v0 A
theorem wM_fails_10 {l : Launch} (hl : l.stackTraces = false) {z : xj_F} (B : xj_B l yM_fails prog_11_method_3_code 2 (some .boolean) [] 1 z) (v1 : Int32) (s0 : Int32) (s1 : xj_Rf) (A : xj_H) (h : fM_fails_10 v1 s0 s1 A = some (xf_r z)) : xj_W l z 10 [(1, .int v1)] [.int s0, xj_rv s1] A := by
  unfold fM_fails_10 at h
  refine xg_puti (pc := 10) B dM_fails_10 (fpM_60 _) h (fun A1 eA1 h => ?_)
  refine xg_iload_n (pc := 13) (i := 1) B dM_fails_13 rfl rfl ?_
  exact xg_zret B dM_fails_14 h
theorem wM_fails {l : Launch} (hl : l.stackTraces = false) {z : xj_F} (B : xj_B l yM_fails prog_11_method_3_code 2 (some .boolean) [] 1 z) (v0 : xj_Rf) (v1 : Int32) (A : xj_H) (h : fM_fails v0 v1 A = some (xf_r z)) : xj_W l z 0 [(0, xj_rv v0), (1, .int v1)] [] A := by
  unfold fM_fails at h
  refine xg_aload_n (pc := 0) (i := 0) (r := v0) B dM_fails_0 rfl rfl ?_
  refine xg_iload_n (pc := 1) (i := 1) B dM_fails_1 rfl rfl ?_
  refine xg_if_eq (pc := 2) (tgt := 9) B dM_fails_2 (by decide) h (fun c2 h => ?_) (fun c2 h => ?_)
  · refine xg_iconst (pc := 9) (v := 0) B dM_fails_9 (by decide) ?_
    refine xg_sub (ls' := [(1, .int v1)]) [1] rfl ?_
    exact wM_fails_10 hl B v1 (0 : Int32) v0 A h
  · refine xg_iconst (pc := 5) (v := 1) B dM_fails_5 (by decide) ?_
    refine xg_goto (pc := 6) (tgt := 10) B dM_fails_6 (by decide) ?_
    refine xg_sub (ls' := [(1, .int v1)]) [1] rfl ?_
    exact wM_fails_10 hl B v1 (1 : Int32) v0 A h
theorem cM_fails {l : Launch} (hl : l.stackTraces = false) (v0 : xj_Rf) (v1 : Int32) (A : xj_H) (r : xj_R) (h : fM_fails v0 v1 A = some r) : xj_M l yM_fails prog_11_method_3_code 2 (some .boolean) [] 1 [xj_rv v0, .int v1] A r := by
  refine xj_M.of hl (by decide +kernel) (by simp [lg_sl, xj_ic, xj_lc, xj_rv_cat]) (fun z B hA hr => ?_)
  subst hr
  have hw := wM_fails hl B v0 v1 A h
  simpa [lv_args, xj_ic, xj_lc, xj_rv_cat] using hw
/-! RecurrenceBookModel.split(I)V -/
def fM_split_54 : Nat → xj_Rf → Int32 → xj_H → Option xj_R
  | 0, _, _, _ => none
  | n + 1, v0, v4, A =>
    (xj_gi A v0 7 26).bind fun x1 =>
    (xj_gi A v0 7 27).bind fun x2 =>
    xj_bi (fM_monthLength x1 x2 A) fun x3 A4 =>
    if v4 < x3 then
      (xj_pv A4 v0 7 28 (.int (v4 + (1 : Int32)))).bind fun A5 =>
      some (.inl none, A5)
    else
      (xj_gi A4 v0 7 26).bind fun x6 =>
      (xj_gi A4 v0 7 27).bind fun x7 =>
      xj_bi (fM_monthLength x6 x7 A4) fun x8 A9 =>
      (xj_gi A9 v0 7 27).bind fun x10 =>
      (xj_pv A9 v0 7 27 (.int (x10 + (1 : Int32)))).bind fun A11 =>
      (fM_split_54 n) v0 (v4 - x8) A11
def fM_split_24 (v0 : xj_Rf) (v1 : Int32) (s0 : Int32) (A : xj_H) : Option xj_R :=
  (xj_pv A v0 7 26 (.int (((v1 / (1461 : Int32)) * (4 : Int32)) + s0))).bind fun A1 =>
  (xj_gi A1 v0 7 26).bind fun x2 =>
  xj_bi (fM_yearBegin x2 A1) fun x3 A4 =>
  (xj_pv A4 v0 7 27 (.int (1 : Int32))).bind fun A5 =>
  fM_split_54 xj_fu v0 (v1 - x3) A5
def fM_split (v0 : xj_Rf) (v1 : Int32) (A : xj_H) : Option xj_R :=
  if (366 : Int32) ≤ (v1 % (1461 : Int32)) then
    fM_split_24 v0 v1 (((v1 % (1461 : Int32)) - (1 : Int32)) / (365 : Int32)) A
  else
    fM_split_24 v0 v1 (0 : Int32) A
theorem wM_split_54 {l : Launch} (hl : l.stackTraces = false) {z : xj_F} (B : xj_B l yM_split prog_11_method_6_code 5 none [] 2 z) : ∀ (n : Nat) (v0 : xj_Rf) (v4 : Int32) (A : xj_H), fM_split_54 n v0 v4 A = some (xf_r z) → xj_W l z 54 [(0, xj_rv v0), (4, .int v4)] [] A
  | 0, _, _, _, h => by simp [fM_split_54] at h
  | n + 1, v0, v4, A, h => by
    rw [fM_split_54] at h
    refine xg_iload (pc := 54) (i := 4) B dM_split_54 rfl ?_
    refine xg_aload_n (pc := 56) (i := 0) (r := v0) B dM_split_56 rfl rfl ?_
    refine xg_geti (pc := 57) B dM_split_57 flM_64 h (fun x1 ex1 h => ?_)
    refine xg_aload_n (pc := 60) (i := 0) (r := v0) B dM_split_60 rfl rfl ?_
    refine xg_geti (pc := 61) B dM_split_61 flM_71 h (fun x2 ex2 h => ?_)
    refine xg_ci (pc := 64) (av := [.int x1, .int x2]) (st := [.int v4]) (cy := prog_11_method_5_code) (nLy := 2) (rety := (some .int)) (hsy := []) B dM_split_64 (xj_go_s B dM_split_64 swM_74 rfl) swM_74.2.2.1 swM_74.2.2.2.1 (by decide) (by decide) (by simp [xj_ic, xj_lc, xj_rv_cat]) rfl (fun r9 h9 => cM_monthLength hl _ _ _ r9 h9) h (fun x3 A4 eA4 h => ?_)
    refine xg_icmp_lt (pc := 67) (tgt := 99) B dM_split_67 (by decide) h (fun c67 h => ?_) (fun c67 h => ?_)
    · refine xg_aload_n (pc := 99) (i := 0) (r := v0) B dM_split_99 rfl rfl ?_
      refine xg_iload (pc := 100) (i := 4) B dM_split_100 rfl ?_
      refine xg_iconst (pc := 102) (v := 1) B dM_split_102 (by decide) ?_
      refine xg_iadd (pc := 103) B dM_split_103 ?_
      refine xg_puti (pc := 104) B dM_split_104 (fpM_78 _) h (fun A5 eA5 h => ?_)
      exact xg_vret B dM_split_107 h
    · refine xg_iload (pc := 70) (i := 4) B dM_split_70 rfl ?_
      refine xg_aload_n (pc := 72) (i := 0) (r := v0) B dM_split_72 rfl rfl ?_
      refine xg_geti (pc := 73) B dM_split_73 flM_64 h (fun x6 ex6 h => ?_)
      refine xg_aload_n (pc := 76) (i := 0) (r := v0) B dM_split_76 rfl rfl ?_
      refine xg_geti (pc := 77) B dM_split_77 flM_71 h (fun x7 ex7 h => ?_)
      refine xg_ci (pc := 80) (av := [.int x6, .int x7]) (st := [.int v4]) (cy := prog_11_method_5_code) (nLy := 2) (rety := (some .int)) (hsy := []) B dM_split_80 (xj_go_s B dM_split_80 swM_74 rfl) swM_74.2.2.1 swM_74.2.2.2.1 (by decide) (by decide) (by simp [xj_ic, xj_lc, xj_rv_cat]) rfl (fun r9 h9 => cM_monthLength hl _ _ _ r9 h9) h (fun x8 A9 eA9 h => ?_)
      refine xg_isub (pc := 83) B dM_split_83 ?_
      refine xg_istore (pc := 84) (i := 4) (ls' := [(4, .int (v4 - x8)), (0, xj_rv v0)]) B dM_split_84 (by decide) ⟨xj_nq (a := 0) (i := 4) (by decide), xj_nq (a := 4) (i := 4) (by decide), trivial⟩ rfl ?_
      refine xg_aload_n (pc := 86) (i := 0) (r := v0) B dM_split_86 rfl rfl ?_
      refine xg_dup (pc := 87) B dM_split_87 (xj_rv_cat v0) ?_
      refine xg_geti (pc := 88) B dM_split_88 flM_71 h (fun x10 ex10 h => ?_)
      refine xg_iconst (pc := 91) (v := 1) B dM_split_91 (by decide) ?_
      refine xg_iadd (pc := 92) B dM_split_92 ?_
      refine xg_puti (pc := 93) B dM_split_93 (fpM_71 _) h (fun A11 eA11 h => ?_)
      refine xg_goto (pc := 96) (tgt := 54) B dM_split_96 (by decide) ?_
      refine xg_sub (ls' := [(0, xj_rv v0), (4, .int (v4 - x8))]) [1, 0] rfl ?_
      exact (wM_split_54 hl B n) v0 (v4 - x8) A11 h
theorem wM_split_24 {l : Launch} (hl : l.stackTraces = false) {z : xj_F} (B : xj_B l yM_split prog_11_method_6_code 5 none [] 2 z) (v0 : xj_Rf) (v1 : Int32) (s0 : Int32) (A : xj_H) (h : fM_split_24 v0 v1 s0 A = some (xf_r z)) : xj_W l z 24 [(0, xj_rv v0), (1, .int v1)] [.int s0] A := by
  unfold fM_split_24 at h
  refine xg_istore_n (pc := 24) (i := 3) (ls' := [(3, .int s0), (0, xj_rv v0), (1, .int v1)]) B dM_split_24 rfl (by decide) ⟨xj_nq (a := 0) (i := 3) (by decide), xj_nq (a := 1) (i := 3) (by decide), trivial⟩ rfl ?_
  refine xg_aload_n (pc := 25) (i := 0) (r := v0) B dM_split_25 rfl rfl ?_
  refine xg_iload_n (pc := 26) (i := 1) B dM_split_26 rfl rfl ?_
  refine xg_sipush (pc := 27) (v := 1461) B dM_split_27 (by decide) ?_
  refine xg_idiv (pc := 30) B dM_split_30 (by decide) ?_
  refine xg_iconst (pc := 31) (v := 4) B dM_split_31 (by decide) ?_
  refine xg_imul (pc := 32) B dM_split_32 ?_
  refine xg_iload_n (pc := 33) (i := 3) B dM_split_33 rfl rfl ?_
  refine xg_iadd (pc := 34) B dM_split_34 ?_
  refine xg_puti (pc := 35) B dM_split_35 (fpM_64 _) h (fun A1 eA1 h => ?_)
  refine xg_iload_n (pc := 38) (i := 1) B dM_split_38 rfl rfl ?_
  refine xg_aload_n (pc := 39) (i := 0) (r := v0) B dM_split_39 rfl rfl ?_
  refine xg_geti (pc := 40) B dM_split_40 flM_64 h (fun x2 ex2 h => ?_)
  refine xg_ci (pc := 43) (av := [.int x2]) (st := [.int v1]) (cy := prog_11_method_4_code) (nLy := 1) (rety := (some .int)) (hsy := []) B dM_split_43 (xj_go_s B dM_split_43 swM_67 rfl) swM_67.2.2.1 swM_67.2.2.2.1 (by decide) (by decide) (by simp [xj_ic, xj_lc, xj_rv_cat]) rfl (fun r9 h9 => cM_yearBegin hl _ _ r9 h9) h (fun x3 A4 eA4 h => ?_)
  refine xg_isub (pc := 46) B dM_split_46 ?_
  refine xg_istore (pc := 47) (i := 4) (ls' := [(4, .int (v1 - x3)), (3, .int s0), (0, xj_rv v0), (1, .int v1)]) B dM_split_47 (by decide) ⟨fun _ => rfl, xj_nq (a := 0) (i := 4) (by decide), xj_nq (a := 1) (i := 4) (by decide), trivial⟩ rfl ?_
  refine xg_aload_n (pc := 49) (i := 0) (r := v0) B dM_split_49 rfl rfl ?_
  refine xg_iconst (pc := 50) (v := 1) B dM_split_50 (by decide) ?_
  refine xg_puti (pc := 51) B dM_split_51 (fpM_71 _) h (fun A5 eA5 h => ?_)
  refine xg_sub (ls' := [(0, xj_rv v0), (4, .int (v1 - x3))]) [2, 0] rfl ?_
  exact wM_split_54 hl B xj_fu v0 (v1 - x3) A5 h
theorem wM_split {l : Launch} (hl : l.stackTraces = false) {z : xj_F} (B : xj_B l yM_split prog_11_method_6_code 5 none [] 2 z) (v0 : xj_Rf) (v1 : Int32) (A : xj_H) (h : fM_split v0 v1 A = some (xf_r z)) : xj_W l z 0 [(0, xj_rv v0), (1, .int v1)] [] A := by
  unfold fM_split at h
  refine xg_iload_n (pc := 0) (i := 1) B dM_split_0 rfl rfl ?_
  refine xg_sipush (pc := 1) (v := 1461) B dM_split_1 (by decide) ?_
  refine xg_irem (pc := 4) B dM_split_4 (by decide) ?_
  refine xg_istore_n (pc := 5) (i := 2) (ls' := [(2, .int (v1 % (1461 : Int32))), (0, xj_rv v0), (1, .int v1)]) B dM_split_5 rfl (by decide) ⟨xj_nq (a := 0) (i := 2) (by decide), fun _ => rfl, trivial⟩ rfl ?_
  refine xg_iload_n (pc := 6) (i := 2) B dM_split_6 rfl rfl ?_
  refine xg_sipush (pc := 7) (v := 366) B dM_split_7 (by decide) ?_
  refine xg_icmp_ge (pc := 10) (tgt := 17) B dM_split_10 (by decide) h (fun c10 h => ?_) (fun c10 h => ?_)
  · refine xg_iload_n (pc := 17) (i := 2) B dM_split_17 rfl rfl ?_
    refine xg_iconst (pc := 18) (v := 1) B dM_split_18 (by decide) ?_
    refine xg_isub (pc := 19) B dM_split_19 ?_
    refine xg_sipush (pc := 20) (v := 365) B dM_split_20 (by decide) ?_
    refine xg_idiv (pc := 23) B dM_split_23 (by decide) ?_
    refine xg_sub (ls' := [(0, xj_rv v0), (1, .int v1)]) [1, 2] rfl ?_
    exact wM_split_24 hl B v0 v1 (((v1 % (1461 : Int32)) - (1 : Int32)) / (365 : Int32)) A h
  · refine xg_iconst (pc := 13) (v := 0) B dM_split_13 (by decide) ?_
    refine xg_goto (pc := 14) (tgt := 24) B dM_split_14 (by decide) ?_
    refine xg_sub (ls' := [(0, xj_rv v0), (1, .int v1)]) [1, 2] rfl ?_
    exact wM_split_24 hl B v0 v1 (0 : Int32) A h
theorem cM_split {l : Launch} (hl : l.stackTraces = false) (v0 : xj_Rf) (v1 : Int32) (A : xj_H) (r : xj_R) (h : fM_split v0 v1 A = some r) : xj_M l yM_split prog_11_method_6_code 5 none [] 2 [xj_rv v0, .int v1] A r := by
  refine xj_M.of hl (by decide +kernel) (by simp [lg_sl, xj_ic, xj_lc, xj_rv_cat]) (fun z B hA hr => ?_)
  subst hr
  have hw := wM_split hl B v0 v1 A h
  simpa [lv_args, xj_ic, xj_lc, xj_rv_cat] using hw
/-! RecurrenceBookModel.isDate(III)Z -/
def fM_isDate_40 (s0 : Int32) (A : xj_H) : Option xj_R :=
  xj_rz s0 A
def fM_isDate_39 (A : xj_H) : Option xj_R :=
  fM_isDate_40 (0 : Int32) A
def fM_isDate (v0 : Int32) (v1 : Int32) (v2 : Int32) (A : xj_H) : Option xj_R :=
  if v0 < 0 then
    fM_isDate_39  A
  else
    if (100 : Int32) ≤ v0 then
      fM_isDate_39  A
    else
      if v1 < (1 : Int32) then
        fM_isDate_39  A
      else
        if (12 : Int32) < v1 then
          fM_isDate_39  A
        else
          if v2 < (1 : Int32) then
            fM_isDate_39  A
          else
            xj_bi (fM_monthLength v0 v1 A) fun x1 A2 =>
            if x1 < v2 then
              fM_isDate_39  A2
            else
              fM_isDate_40 (1 : Int32) A2
theorem wM_isDate_40 {l : Launch} (hl : l.stackTraces = false) {z : xj_F} (B : xj_B l yM_isDate prog_11_method_8_code 3 (some .boolean) [] 2 z) (s0 : Int32) (A : xj_H) (h : fM_isDate_40 s0 A = some (xf_r z)) : xj_W l z 40 [] [.int s0] A := by
  unfold fM_isDate_40 at h
  exact xg_zret B dM_isDate_40 h
theorem wM_isDate_39 {l : Launch} (hl : l.stackTraces = false) {z : xj_F} (B : xj_B l yM_isDate prog_11_method_8_code 3 (some .boolean) [] 2 z) (A : xj_H) (h : fM_isDate_39  A = some (xf_r z)) : xj_W l z 39 [] [] A := by
  unfold fM_isDate_39 at h
  refine xg_iconst (pc := 39) (v := 0) B dM_isDate_39 (by decide) ?_
  exact wM_isDate_40 hl B (0 : Int32) A h
theorem wM_isDate {l : Launch} (hl : l.stackTraces = false) {z : xj_F} (B : xj_B l yM_isDate prog_11_method_8_code 3 (some .boolean) [] 2 z) (v0 : Int32) (v1 : Int32) (v2 : Int32) (A : xj_H) (h : fM_isDate v0 v1 v2 A = some (xf_r z)) : xj_W l z 0 [(0, .int v0), (1, .int v1), (2, .int v2)] [] A := by
  unfold fM_isDate at h
  refine xg_iload_n (pc := 0) (i := 0) B dM_isDate_0 rfl rfl ?_
  refine xg_if_lt (pc := 1) (tgt := 39) B dM_isDate_1 (by decide) h (fun c1 h => ?_) (fun c1 h => ?_)
  · refine xg_sub (ls' := []) [] rfl ?_
    exact wM_isDate_39 hl B  A h
  · refine xg_iload_n (pc := 4) (i := 0) B dM_isDate_4 rfl rfl ?_
    refine xg_bipush (pc := 5) (v := 100) B dM_isDate_5 (by decide) ?_
    refine xg_icmp_ge (pc := 7) (tgt := 39) B dM_isDate_7 (by decide) h (fun c7 h => ?_) (fun c7 h => ?_)
    · refine xg_sub (ls' := []) [] rfl ?_
      exact wM_isDate_39 hl B  A h
    · refine xg_iload_n (pc := 10) (i := 1) B dM_isDate_10 rfl rfl ?_
      refine xg_iconst (pc := 11) (v := 1) B dM_isDate_11 (by decide) ?_
      refine xg_icmp_lt (pc := 12) (tgt := 39) B dM_isDate_12 (by decide) h (fun c12 h => ?_) (fun c12 h => ?_)
      · refine xg_sub (ls' := []) [] rfl ?_
        exact wM_isDate_39 hl B  A h
      · refine xg_iload_n (pc := 15) (i := 1) B dM_isDate_15 rfl rfl ?_
        refine xg_bipush (pc := 16) (v := 12) B dM_isDate_16 (by decide) ?_
        refine xg_icmp_gt (pc := 18) (tgt := 39) B dM_isDate_18 (by decide) h (fun c18 h => ?_) (fun c18 h => ?_)
        · refine xg_sub (ls' := []) [] rfl ?_
          exact wM_isDate_39 hl B  A h
        · refine xg_iload_n (pc := 21) (i := 2) B dM_isDate_21 rfl rfl ?_
          refine xg_iconst (pc := 22) (v := 1) B dM_isDate_22 (by decide) ?_
          refine xg_icmp_lt (pc := 23) (tgt := 39) B dM_isDate_23 (by decide) h (fun c23 h => ?_) (fun c23 h => ?_)
          · refine xg_sub (ls' := []) [] rfl ?_
            exact wM_isDate_39 hl B  A h
          · refine xg_iload_n (pc := 26) (i := 2) B dM_isDate_26 rfl rfl ?_
            refine xg_iload_n (pc := 27) (i := 0) B dM_isDate_27 rfl rfl ?_
            refine xg_iload_n (pc := 28) (i := 1) B dM_isDate_28 rfl rfl ?_
            refine xg_ci (pc := 29) (av := [.int v0, .int v1]) (st := [.int v2]) (cy := prog_11_method_5_code) (nLy := 2) (rety := (some .int)) (hsy := []) B dM_isDate_29 (xj_go_s B dM_isDate_29 swM_74 rfl) swM_74.2.2.1 swM_74.2.2.2.1 (by decide) (by decide) (by simp [xj_ic, xj_lc, xj_rv_cat]) rfl (fun r9 h9 => cM_monthLength hl _ _ _ r9 h9) h (fun x1 A2 eA2 h => ?_)
            refine xg_icmp_gt (pc := 32) (tgt := 39) B dM_isDate_32 (by decide) h (fun c32 h => ?_) (fun c32 h => ?_)
            · refine xg_sub (ls' := []) [] rfl ?_
              exact wM_isDate_39 hl B  A2 h
            · refine xg_iconst (pc := 35) (v := 1) B dM_isDate_35 (by decide) ?_
              refine xg_goto (pc := 36) (tgt := 40) B dM_isDate_36 (by decide) ?_
              refine xg_sub (ls' := []) [] rfl ?_
              exact wM_isDate_40 hl B (1 : Int32) A2 h
theorem cM_isDate {l : Launch} (hl : l.stackTraces = false) (v0 : Int32) (v1 : Int32) (v2 : Int32) (A : xj_H) (r : xj_R) (h : fM_isDate v0 v1 v2 A = some r) : xj_M l yM_isDate prog_11_method_8_code 3 (some .boolean) [] 2 [.int v0, .int v1, .int v2] A r := by
  refine xj_M.of hl (by decide +kernel) (by simp [lg_sl, xj_ic, xj_lc, xj_rv_cat]) (fun z B hA hr => ?_)
  subst hr
  have hw := wM_isDate hl B v0 v1 v2 A h
  simpa [lv_args, xj_ic, xj_lc, xj_rv_cat] using hw
/-! RecurrenceBookModel.date(III)I -/
def fM_date_46 (s0 : Int32) (A : xj_H) : Option xj_R :=
  some (.inl (some (.int s0)), A)
def fM_date_45 (A : xj_H) : Option xj_R :=
  fM_date_46 (-1 : Int32) A
def fM_date (v0 : xj_Rf) (v1 : Int32) (v2 : Int32) (v3 : Int32) (A : xj_H) : Option xj_R :=
  (xj_pv A v0 7 0 (.int (0 : Int32))).bind fun A1 =>
  if v1 < (2000 : Int32) then
    fM_date_45  A1
  else
    if (2099 : Int32) < v1 then
      fM_date_45  A1
    else
      xj_bi (fM_isDate (v1 - (2000 : Int32)) v2 v3 A1) fun x2 A3 =>
      if x2 = 0 then
        fM_date_45  A3
      else
        xj_bi (fM_dayOf (v1 - (2000 : Int32)) v2 v3 A3) fun x4 A5 =>
        fM_date_46 x4 A5
theorem wM_date_46 {l : Launch} (hl : l.stackTraces = false) {z : xj_F} (B : xj_B l yM_date prog_11_method_10_code 4 (some .int) [] 3 z) (s0 : Int32) (A : xj_H) (h : fM_date_46 s0 A = some (xf_r z)) : xj_W l z 46 [] [.int s0] A := by
  unfold fM_date_46 at h
  exact xg_iret B dM_date_46 h
theorem wM_date_45 {l : Launch} (hl : l.stackTraces = false) {z : xj_F} (B : xj_B l yM_date prog_11_method_10_code 4 (some .int) [] 3 z) (A : xj_H) (h : fM_date_45  A = some (xf_r z)) : xj_W l z 45 [] [] A := by
  unfold fM_date_45 at h
  refine xg_iconst (pc := 45) (v := -1) B dM_date_45 (by decide) ?_
  exact wM_date_46 hl B (-1 : Int32) A h
theorem wM_date {l : Launch} (hl : l.stackTraces = false) {z : xj_F} (B : xj_B l yM_date prog_11_method_10_code 4 (some .int) [] 3 z) (v0 : xj_Rf) (v1 : Int32) (v2 : Int32) (v3 : Int32) (A : xj_H) (h : fM_date v0 v1 v2 v3 A = some (xf_r z)) : xj_W l z 0 [(0, xj_rv v0), (1, .int v1), (2, .int v2), (3, .int v3)] [] A := by
  unfold fM_date at h
  refine xg_aload_n (pc := 0) (i := 0) (r := v0) B dM_date_0 rfl rfl ?_
  refine xg_iconst (pc := 1) (v := 0) B dM_date_1 (by decide) ?_
  refine xg_puti (pc := 2) B dM_date_2 (fpM_60 _) h (fun A1 eA1 h => ?_)
  refine xg_iload_n (pc := 5) (i := 1) B dM_date_5 rfl rfl ?_
  refine xg_sipush (pc := 6) (v := 2000) B dM_date_6 (by decide) ?_
  refine xg_icmp_lt (pc := 9) (tgt := 45) B dM_date_9 (by decide) h (fun c9 h => ?_) (fun c9 h => ?_)
  · refine xg_sub (ls' := []) [] rfl ?_
    exact wM_date_45 hl B  A1 h
  · refine xg_iload_n (pc := 12) (i := 1) B dM_date_12 rfl rfl ?_
    refine xg_sipush (pc := 13) (v := 2099) B dM_date_13 (by decide) ?_
    refine xg_icmp_gt (pc := 16) (tgt := 45) B dM_date_16 (by decide) h (fun c16 h => ?_) (fun c16 h => ?_)
    · refine xg_sub (ls' := []) [] rfl ?_
      exact wM_date_45 hl B  A1 h
    · refine xg_iload_n (pc := 19) (i := 1) B dM_date_19 rfl rfl ?_
      refine xg_sipush (pc := 20) (v := 2000) B dM_date_20 (by decide) ?_
      refine xg_isub (pc := 23) B dM_date_23 ?_
      refine xg_iload_n (pc := 24) (i := 2) B dM_date_24 rfl rfl ?_
      refine xg_iload_n (pc := 25) (i := 3) B dM_date_25 rfl rfl ?_
      refine xg_ci (pc := 26) (av := [.int (v1 - (2000 : Int32)), .int v2, .int v3]) (st := []) (cy := prog_11_method_8_code) (nLy := 3) (rety := (some .boolean)) (hsy := []) B dM_date_26 (xj_go_s B dM_date_26 swM_81 rfl) swM_81.2.2.1 swM_81.2.2.2.1 (by decide) (by decide) (by decide) rfl (fun r9 h9 => cM_isDate hl _ _ _ _ r9 h9) h (fun x2 A3 eA3 h => ?_)
      refine xg_if_eq (pc := 29) (tgt := 45) B dM_date_29 (by decide) h (fun c29 h => ?_) (fun c29 h => ?_)
      · refine xg_sub (ls' := []) [] rfl ?_
        exact wM_date_45 hl B  A3 h
      · refine xg_iload_n (pc := 32) (i := 1) B dM_date_32 rfl rfl ?_
        refine xg_sipush (pc := 33) (v := 2000) B dM_date_33 (by decide) ?_
        refine xg_isub (pc := 36) B dM_date_36 ?_
        refine xg_iload_n (pc := 37) (i := 2) B dM_date_37 rfl rfl ?_
        refine xg_iload_n (pc := 38) (i := 3) B dM_date_38 rfl rfl ?_
        refine xg_ci (pc := 39) (av := [.int (v1 - (2000 : Int32)), .int v2, .int v3]) (st := []) (cy := prog_11_method_7_code) (nLy := 5) (rety := (some .int)) (hsy := []) B dM_date_39 (xj_go_s B dM_date_39 swM_85 rfl) swM_85.2.2.1 swM_85.2.2.2.1 (by decide) (by decide) (by decide) rfl (fun r9 h9 => cM_dayOf hl _ _ _ _ r9 h9) h (fun x4 A5 eA5 h => ?_)
        refine xg_goto (pc := 42) (tgt := 46) B dM_date_42 (by decide) ?_
        refine xg_sub (ls' := []) [] rfl ?_
        exact wM_date_46 hl B x4 A5 h
theorem cM_date {l : Launch} (hl : l.stackTraces = false) (v0 : xj_Rf) (v1 : Int32) (v2 : Int32) (v3 : Int32) (A : xj_H) (r : xj_R) (h : fM_date v0 v1 v2 v3 A = some r) : xj_M l yM_date prog_11_method_10_code 4 (some .int) [] 3 [xj_rv v0, .int v1, .int v2, .int v3] A r := by
  refine xj_M.of hl (by decide +kernel) (by simp [lg_sl, xj_ic, xj_lc, xj_rv_cat]) (fun z B hA hr => ?_)
  subst hr
  have hw := wM_date hl B v0 v1 v2 v3 A h
  simpa [lv_args, xj_ic, xj_lc, xj_rv_cat] using hw
/-! RecurrenceBookModel.inside(III)Z -/
def fM_inside_15 (s0 : Int32) (A : xj_H) : Option xj_R :=
  xj_rz s0 A
def fM_inside_14 (A : xj_H) : Option xj_R :=
  fM_inside_15 (0 : Int32) A
def fM_inside (v0 : Int32) (v1 : Int32) (v2 : Int32) (A : xj_H) : Option xj_R :=
  if v0 < v1 then
    fM_inside_14  A
  else
    if v2 < v0 then
      fM_inside_14  A
    else
      fM_inside_15 (1 : Int32) A
theorem wM_inside_15 {l : Launch} (hl : l.stackTraces = false) {z : xj_F} (B : xj_B l yM_inside prog_11_method_13_code 3 (some .boolean) [] 1 z) (s0 : Int32) (A : xj_H) (h : fM_inside_15 s0 A = some (xf_r z)) : xj_W l z 15 [] [.int s0] A := by
  unfold fM_inside_15 at h
  exact xg_zret B dM_inside_15 h
theorem wM_inside_14 {l : Launch} (hl : l.stackTraces = false) {z : xj_F} (B : xj_B l yM_inside prog_11_method_13_code 3 (some .boolean) [] 1 z) (A : xj_H) (h : fM_inside_14  A = some (xf_r z)) : xj_W l z 14 [] [] A := by
  unfold fM_inside_14 at h
  refine xg_iconst (pc := 14) (v := 0) B dM_inside_14 (by decide) ?_
  exact wM_inside_15 hl B (0 : Int32) A h
theorem wM_inside {l : Launch} (hl : l.stackTraces = false) {z : xj_F} (B : xj_B l yM_inside prog_11_method_13_code 3 (some .boolean) [] 1 z) (v0 : Int32) (v1 : Int32) (v2 : Int32) (A : xj_H) (h : fM_inside v0 v1 v2 A = some (xf_r z)) : xj_W l z 0 [(0, .int v0), (1, .int v1), (2, .int v2)] [] A := by
  unfold fM_inside at h
  refine xg_iload_n (pc := 0) (i := 0) B dM_inside_0 rfl rfl ?_
  refine xg_iload_n (pc := 1) (i := 1) B dM_inside_1 rfl rfl ?_
  refine xg_icmp_lt (pc := 2) (tgt := 14) B dM_inside_2 (by decide) h (fun c2 h => ?_) (fun c2 h => ?_)
  · refine xg_sub (ls' := []) [] rfl ?_
    exact wM_inside_14 hl B  A h
  · refine xg_iload_n (pc := 5) (i := 0) B dM_inside_5 rfl rfl ?_
    refine xg_iload_n (pc := 6) (i := 2) B dM_inside_6 rfl rfl ?_
    refine xg_icmp_gt (pc := 7) (tgt := 14) B dM_inside_7 (by decide) h (fun c7 h => ?_) (fun c7 h => ?_)
    · refine xg_sub (ls' := []) [] rfl ?_
      exact wM_inside_14 hl B  A h
    · refine xg_iconst (pc := 10) (v := 1) B dM_inside_10 (by decide) ?_
      refine xg_goto (pc := 11) (tgt := 15) B dM_inside_11 (by decide) ?_
      refine xg_sub (ls' := []) [] rfl ?_
      exact wM_inside_15 hl B (1 : Int32) A h
theorem cM_inside {l : Launch} (hl : l.stackTraces = false) (v0 : Int32) (v1 : Int32) (v2 : Int32) (A : xj_H) (r : xj_R) (h : fM_inside v0 v1 v2 A = some r) : xj_M l yM_inside prog_11_method_13_code 3 (some .boolean) [] 1 [.int v0, .int v1, .int v2] A r := by
  refine xj_M.of hl (by decide +kernel) (by simp [lg_sl, xj_ic, xj_lc, xj_rv_cat]) (fun z B hA hr => ?_)
  subst hr
  have hw := wM_inside hl B v0 v1 v2 A h
  simpa [lv_args, xj_ic, xj_lc, xj_rv_cat] using hw
/-! RecurrenceBookModel.zone(IIIIII)V -/
def fM_zone_85 (v0 : xj_Rf) (v1 : Int32) (v2 : Int32) (v3 : Int32) (v4 : Int32) (v5 : Int32) (v6 : Int32) (s0 : Int32) (s1 : xj_Rf) (A : xj_H) : Option xj_R :=
  xj_bi (xj_rq A s1 7 (fM_fails s1 s0 A)) fun x1 A2 =>
  if x1 = 0 then
    (xj_pv A2 v0 7 3 (.int v1)).bind fun A3 =>
    (xj_pv A3 v0 7 4 (.int v2)).bind fun A4 =>
    xj_bv (xj_rq A4 v0 7 (fM_changes v0 v3 v4 v5 v6 A4)) fun A5 =>
    some (.inl none, A5)
  else
    some (.inl none, A2)
def fM_zone_72 (v0 : xj_Rf) (v1 : Int32) (v2 : Int32) (v3 : Int32) (v4 : Int32) (v5 : Int32) (v6 : Int32) (s0 : Int32) (A : xj_H) : Option xj_R :=
  if ¬ s0 = 0 then
    fM_zone_85 v0 v1 v2 v3 v4 v5 v6 (0 : Int32) v0 A
  else
    fM_zone_85 v0 v1 v2 v3 v4 v5 v6 (1 : Int32) v0 A
def fM_zone_71 (v0 : xj_Rf) (v1 : Int32) (v2 : Int32) (v3 : Int32) (v4 : Int32) (v5 : Int32) (v6 : Int32) (A : xj_H) : Option xj_R :=
  fM_zone_72 v0 v1 v2 v3 v4 v5 v6 (0 : Int32) A
def fM_zone (v0 : xj_Rf) (v1 : Int32) (v2 : Int32) (v3 : Int32) (v4 : Int32) (v5 : Int32) (v6 : Int32) (A : xj_H) : Option xj_R :=
  xj_bi (fM_inside v1 (-840 : Int32) (840 : Int32) A) fun x1 A2 =>
  if x1 = 0 then
    fM_zone_71 v0 v1 v2 v3 v4 v5 v6 A2
  else
    xj_bi (fM_inside v2 v1 (840 : Int32) A2) fun x3 A4 =>
    if x3 = 0 then
      fM_zone_71 v0 v1 v2 v3 v4 v5 v6 A4
    else
      xj_bi (fM_inside v3 (1 : Int32) (12 : Int32) A4) fun x5 A6 =>
      if x5 = 0 then
        fM_zone_71 v0 v1 v2 v3 v4 v5 v6 A6
      else
        xj_bi (fM_inside v5 (v3 + (1 : Int32)) (12 : Int32) A6) fun x7 A8 =>
        if x7 = 0 then
          fM_zone_71 v0 v1 v2 v3 v4 v5 v6 A8
        else
          xj_bi (fM_inside v4 (1 : Int32) (5 : Int32) A8) fun x9 A10 =>
          if x9 = 0 then
            fM_zone_71 v0 v1 v2 v3 v4 v5 v6 A10
          else
            xj_bi (fM_inside v6 (1 : Int32) (5 : Int32) A10) fun x11 A12 =>
            if x11 = 0 then
              fM_zone_71 v0 v1 v2 v3 v4 v5 v6 A12
            else
              fM_zone_72 v0 v1 v2 v3 v4 v5 v6 (1 : Int32) A12
theorem wM_zone_85 {l : Launch} (hl : l.stackTraces = false) {z : xj_F} (B : xj_B l yM_zone prog_11_method_14_code 8 none [] 5 z) (v0 : xj_Rf) (v1 : Int32) (v2 : Int32) (v3 : Int32) (v4 : Int32) (v5 : Int32) (v6 : Int32) (s0 : Int32) (s1 : xj_Rf) (A : xj_H) (h : fM_zone_85 v0 v1 v2 v3 v4 v5 v6 s0 s1 A = some (xf_r z)) : xj_W l z 85 [(0, xj_rv v0), (1, .int v1), (2, .int v2), (3, .int v3), (4, .int v4), (5, .int v5), (6, .int v6)] [.int s0, xj_rv s1] A := by
  unfold fM_zone_85 at h
  obtain ⟨hq85, h⟩ := xj_rq_i h
  refine xg_ci (pc := 85) (av := [xj_rv s1, .int s0]) (st := []) (cy := prog_11_method_3_code) (nLy := 2) (rety := (some .boolean)) (hsy := []) B dM_zone_85 (xj_go_v B dM_zone_85 vwM_104 rfl hq85) (xj_vw_c vwM_104) (xj_vw_i vwM_104) (by decide) (by decide) (by decide) rfl (fun r9 h9 => cM_fails hl _ _ _ r9 h9) h (fun x1 A2 eA2 h => ?_)
  refine xg_if_eq (pc := 88) (tgt := 92) B dM_zone_88 (by decide) h (fun c88 h => ?_) (fun c88 h => ?_)
  · refine xg_aload_n (pc := 92) (i := 0) (r := v0) B dM_zone_92 rfl rfl ?_
    refine xg_iload_n (pc := 93) (i := 1) B dM_zone_93 rfl rfl ?_
    refine xg_puti (pc := 94) B dM_zone_94 (fpM_95 _) h (fun A3 eA3 h => ?_)
    refine xg_aload_n (pc := 97) (i := 0) (r := v0) B dM_zone_97 rfl rfl ?_
    refine xg_iload_n (pc := 98) (i := 2) B dM_zone_98 rfl rfl ?_
    refine xg_puti (pc := 99) B dM_zone_99 (fpM_98 _) h (fun A4 eA4 h => ?_)
    refine xg_aload_n (pc := 102) (i := 0) (r := v0) B dM_zone_102 rfl rfl ?_
    refine xg_iload_n (pc := 103) (i := 3) B dM_zone_103 rfl rfl ?_
    refine xg_iload (pc := 104) (i := 4) B dM_zone_104 rfl ?_
    refine xg_iload (pc := 106) (i := 5) B dM_zone_106 rfl ?_
    refine xg_iload (pc := 108) (i := 6) B dM_zone_108 rfl ?_
    obtain ⟨hq110, h⟩ := xj_rq_v h
    refine xg_cv (pc := 110) (av := [xj_rv v0, .int v3, .int v4, .int v5, .int v6]) (st := []) (cy := prog_11_method_12_code) (nLy := 6) (rety := none) (hsy := []) B dM_zone_110 (xj_go_v B dM_zone_110 vwM_56 rfl hq110) (xj_vw_c vwM_56) (xj_vw_i vwM_56) (by decide) (by decide) (by decide) rfl (fun r9 h9 => cM_changes hl _ _ _ _ _ _ r9 h9) h (fun A5 eA5 h => ?_)
    exact xg_vret B dM_zone_113 h
  · exact xg_vret B dM_zone_91 h
theorem wM_zone_72 {l : Launch} (hl : l.stackTraces = false) {z : xj_F} (B : xj_B l yM_zone prog_11_method_14_code 8 none [] 5 z) (v0 : xj_Rf) (v1 : Int32) (v2 : Int32) (v3 : Int32) (v4 : Int32) (v5 : Int32) (v6 : Int32) (s0 : Int32) (A : xj_H) (h : fM_zone_72 v0 v1 v2 v3 v4 v5 v6 s0 A = some (xf_r z)) : xj_W l z 72 [(0, xj_rv v0), (1, .int v1), (2, .int v2), (3, .int v3), (4, .int v4), (5, .int v5), (6, .int v6)] [.int s0] A := by
  unfold fM_zone_72 at h
  refine xg_istore (pc := 72) (i := 7) (ls' := [(7, .int s0), (0, xj_rv v0), (1, .int v1), (2, .int v2), (3, .int v3), (4, .int v4), (5, .int v5), (6, .int v6)]) B dM_zone_72 (by decide) ⟨xj_nq (a := 0) (i := 7) (by decide), xj_nq (a := 1) (i := 7) (by decide), xj_nq (a := 2) (i := 7) (by decide), xj_nq (a := 3) (i := 7) (by decide), xj_nq (a := 4) (i := 7) (by decide), xj_nq (a := 5) (i := 7) (by decide), fun _ => rfl, trivial⟩ rfl ?_
  refine xg_aload_n (pc := 74) (i := 0) (r := v0) B dM_zone_74 rfl rfl ?_
  refine xg_iload (pc := 75) (i := 7) B dM_zone_75 rfl ?_
  refine xg_if_ne (pc := 77) (tgt := 84) B dM_zone_77 (by decide) h (fun c77 h => ?_) (fun c77 h => ?_)
  · refine xg_iconst (pc := 84) (v := 0) B dM_zone_84 (by decide) ?_
    refine xg_sub (ls' := [(0, xj_rv v0), (1, .int v1), (2, .int v2), (3, .int v3), (4, .int v4), (5, .int v5), (6, .int v6)]) [1, 2, 3, 4, 5, 6, 7] rfl ?_
    exact wM_zone_85 hl B v0 v1 v2 v3 v4 v5 v6 (0 : Int32) v0 A h
  · refine xg_iconst (pc := 80) (v := 1) B dM_zone_80 (by decide) ?_
    refine xg_goto (pc := 81) (tgt := 85) B dM_zone_81 (by decide) ?_
    refine xg_sub (ls' := [(0, xj_rv v0), (1, .int v1), (2, .int v2), (3, .int v3), (4, .int v4), (5, .int v5), (6, .int v6)]) [1, 2, 3, 4, 5, 6, 7] rfl ?_
    exact wM_zone_85 hl B v0 v1 v2 v3 v4 v5 v6 (1 : Int32) v0 A h
theorem wM_zone_71 {l : Launch} (hl : l.stackTraces = false) {z : xj_F} (B : xj_B l yM_zone prog_11_method_14_code 8 none [] 5 z) (v0 : xj_Rf) (v1 : Int32) (v2 : Int32) (v3 : Int32) (v4 : Int32) (v5 : Int32) (v6 : Int32) (A : xj_H) (h : fM_zone_71 v0 v1 v2 v3 v4 v5 v6 A = some (xf_r z)) : xj_W l z 71 [(0, xj_rv v0), (1, .int v1), (2, .int v2), (3, .int v3), (4, .int v4), (5, .int v5), (6, .int v6)] [] A := by
  unfold fM_zone_71 at h
  refine xg_iconst (pc := 71) (v := 0) B dM_zone_71 (by decide) ?_
  exact wM_zone_72 hl B v0 v1 v2 v3 v4 v5 v6 (0 : Int32) A h
theorem wM_zone {l : Launch} (hl : l.stackTraces = false) {z : xj_F} (B : xj_B l yM_zone prog_11_method_14_code 8 none [] 5 z) (v0 : xj_Rf) (v1 : Int32) (v2 : Int32) (v3 : Int32) (v4 : Int32) (v5 : Int32) (v6 : Int32) (A : xj_H) (h : fM_zone v0 v1 v2 v3 v4 v5 v6 A = some (xf_r z)) : xj_W l z 0 [(0, xj_rv v0), (1, .int v1), (2, .int v2), (3, .int v3), (4, .int v4), (5, .int v5), (6, .int v6)] [] A := by
  unfold fM_zone at h
  refine xg_iload_n (pc := 0) (i := 1) B dM_zone_0 rfl rfl ?_
  refine xg_sipush (pc := 1) (v := -840) B dM_zone_1 (by decide) ?_
  refine xg_sipush (pc := 4) (v := 840) B dM_zone_4 (by decide) ?_
  refine xg_ci (pc := 7) (av := [.int v1, .int (-840 : Int32), .int (840 : Int32)]) (st := []) (cy := prog_11_method_13_code) (nLy := 3) (rety := (some .boolean)) (hsy := []) B dM_zone_7 (xj_go_s B dM_zone_7 swM_101 rfl) swM_101.2.2.1 swM_101.2.2.2.1 (by decide) (by decide) (by decide) rfl (fun r9 h9 => cM_inside hl _ _ _ _ r9 h9) h (fun x1 A2 eA2 h => ?_)
  refine xg_if_eq (pc := 10) (tgt := 71) B dM_zone_10 (by decide) h (fun c10 h => ?_) (fun c10 h => ?_)
  · exact wM_zone_71 hl B v0 v1 v2 v3 v4 v5 v6 A2 h
  · refine xg_iload_n (pc := 13) (i := 2) B dM_zone_13 rfl rfl ?_
    refine xg_iload_n (pc := 14) (i := 1) B dM_zone_14 rfl rfl ?_
    refine xg_sipush (pc := 15) (v := 840) B dM_zone_15 (by decide) ?_
    refine xg_ci (pc := 18) (av := [.int v2, .int v1, .int (840 : Int32)]) (st := []) (cy := prog_11_method_13_code) (nLy := 3) (rety := (some .boolean)) (hsy := []) B dM_zone_18 (xj_go_s B dM_zone_18 swM_101 rfl) swM_101.2.2.1 swM_101.2.2.2.1 (by decide) (by decide) (by decide) rfl (fun r9 h9 => cM_inside hl _ _ _ _ r9 h9) h (fun x3 A4 eA4 h => ?_)
    refine xg_if_eq (pc := 21) (tgt := 71) B dM_zone_21 (by decide) h (fun c21 h => ?_) (fun c21 h => ?_)
    · exact wM_zone_71 hl B v0 v1 v2 v3 v4 v5 v6 A4 h
    · refine xg_iload_n (pc := 24) (i := 3) B dM_zone_24 rfl rfl ?_
      refine xg_iconst (pc := 25) (v := 1) B dM_zone_25 (by decide) ?_
      refine xg_bipush (pc := 26) (v := 12) B dM_zone_26 (by decide) ?_
      refine xg_ci (pc := 28) (av := [.int v3, .int (1 : Int32), .int (12 : Int32)]) (st := []) (cy := prog_11_method_13_code) (nLy := 3) (rety := (some .boolean)) (hsy := []) B dM_zone_28 (xj_go_s B dM_zone_28 swM_101 rfl) swM_101.2.2.1 swM_101.2.2.2.1 (by decide) (by decide) (by decide) rfl (fun r9 h9 => cM_inside hl _ _ _ _ r9 h9) h (fun x5 A6 eA6 h => ?_)
      refine xg_if_eq (pc := 31) (tgt := 71) B dM_zone_31 (by decide) h (fun c31 h => ?_) (fun c31 h => ?_)
      · exact wM_zone_71 hl B v0 v1 v2 v3 v4 v5 v6 A6 h
      · refine xg_iload (pc := 34) (i := 5) B dM_zone_34 rfl ?_
        refine xg_iload_n (pc := 36) (i := 3) B dM_zone_36 rfl rfl ?_
        refine xg_iconst (pc := 37) (v := 1) B dM_zone_37 (by decide) ?_
        refine xg_iadd (pc := 38) B dM_zone_38 ?_
        refine xg_bipush (pc := 39) (v := 12) B dM_zone_39 (by decide) ?_
        refine xg_ci (pc := 41) (av := [.int v5, .int (v3 + (1 : Int32)), .int (12 : Int32)]) (st := []) (cy := prog_11_method_13_code) (nLy := 3) (rety := (some .boolean)) (hsy := []) B dM_zone_41 (xj_go_s B dM_zone_41 swM_101 rfl) swM_101.2.2.1 swM_101.2.2.2.1 (by decide) (by decide) (by decide) rfl (fun r9 h9 => cM_inside hl _ _ _ _ r9 h9) h (fun x7 A8 eA8 h => ?_)
        refine xg_if_eq (pc := 44) (tgt := 71) B dM_zone_44 (by decide) h (fun c44 h => ?_) (fun c44 h => ?_)
        · exact wM_zone_71 hl B v0 v1 v2 v3 v4 v5 v6 A8 h
        · refine xg_iload (pc := 47) (i := 4) B dM_zone_47 rfl ?_
          refine xg_iconst (pc := 49) (v := 1) B dM_zone_49 (by decide) ?_
          refine xg_iconst (pc := 50) (v := 5) B dM_zone_50 (by decide) ?_
          refine xg_ci (pc := 51) (av := [.int v4, .int (1 : Int32), .int (5 : Int32)]) (st := []) (cy := prog_11_method_13_code) (nLy := 3) (rety := (some .boolean)) (hsy := []) B dM_zone_51 (xj_go_s B dM_zone_51 swM_101 rfl) swM_101.2.2.1 swM_101.2.2.2.1 (by decide) (by decide) (by decide) rfl (fun r9 h9 => cM_inside hl _ _ _ _ r9 h9) h (fun x9 A10 eA10 h => ?_)
          refine xg_if_eq (pc := 54) (tgt := 71) B dM_zone_54 (by decide) h (fun c54 h => ?_) (fun c54 h => ?_)
          · exact wM_zone_71 hl B v0 v1 v2 v3 v4 v5 v6 A10 h
          · refine xg_iload (pc := 57) (i := 6) B dM_zone_57 rfl ?_
            refine xg_iconst (pc := 59) (v := 1) B dM_zone_59 (by decide) ?_
            refine xg_iconst (pc := 60) (v := 5) B dM_zone_60 (by decide) ?_
            refine xg_ci (pc := 61) (av := [.int v6, .int (1 : Int32), .int (5 : Int32)]) (st := []) (cy := prog_11_method_13_code) (nLy := 3) (rety := (some .boolean)) (hsy := []) B dM_zone_61 (xj_go_s B dM_zone_61 swM_101 rfl) swM_101.2.2.1 swM_101.2.2.2.1 (by decide) (by decide) (by decide) rfl (fun r9 h9 => cM_inside hl _ _ _ _ r9 h9) h (fun x11 A12 eA12 h => ?_)
            refine xg_if_eq (pc := 64) (tgt := 71) B dM_zone_64 (by decide) h (fun c64 h => ?_) (fun c64 h => ?_)
            · exact wM_zone_71 hl B v0 v1 v2 v3 v4 v5 v6 A12 h
            · refine xg_iconst (pc := 67) (v := 1) B dM_zone_67 (by decide) ?_
              refine xg_goto (pc := 68) (tgt := 72) B dM_zone_68 (by decide) ?_
              exact wM_zone_72 hl B v0 v1 v2 v3 v4 v5 v6 (1 : Int32) A12 h
theorem cM_zone {l : Launch} (hl : l.stackTraces = false) (v0 : xj_Rf) (v1 : Int32) (v2 : Int32) (v3 : Int32) (v4 : Int32) (v5 : Int32) (v6 : Int32) (A : xj_H) (r : xj_R) (h : fM_zone v0 v1 v2 v3 v4 v5 v6 A = some r) : xj_M l yM_zone prog_11_method_14_code 8 none [] 5 [xj_rv v0, .int v1, .int v2, .int v3, .int v4, .int v5, .int v6] A r := by
  refine xj_M.of hl (by decide +kernel) (by simp [lg_sl, xj_ic, xj_lc, xj_rv_cat]) (fun z B hA hr => ?_)
  subst hr
  have hw := wM_zone hl B v0 v1 v2 v3 v4 v5 v6 A h
  simpa [lv_args, xj_ic, xj_lc, xj_rv_cat] using hw
/-! RecurrenceBookModel.inSummer(I)Z -/
def fM_inSummer_46 (v2 : Int32) (A : xj_H) : Option xj_R :=
  xj_rz v2 A
def fM_inSummer_39 (k4 : xj_Rf → Int32 → Int32 → Int32 → xj_H → Option xj_R) (v0 : xj_Rf) (v1 : Int32) (v3 : Int32) (s0 : Int32) (A : xj_H) : Option xj_R :=
  k4 v0 v1 s0 (v3 + 1) A
def fM_inSummer_38 (k4 : xj_Rf → Int32 → Int32 → Int32 → xj_H → Option xj_R) (v0 : xj_Rf) (v1 : Int32) (v3 : Int32) (A : xj_H) : Option xj_R :=
  fM_inSummer_39 k4 v0 v1 v3 (0 : Int32) A
def fM_inSummer_4 : Nat → xj_Rf → Int32 → Int32 → Int32 → xj_H → Option xj_R
  | 0, _, _, _, _, _ => none
  | n + 1, v0, v1, v2, v3, A =>
    if (100 : Int32) ≤ v3 then
      fM_inSummer_46 v2 A
    else
      if ¬ v2 = 0 then
        fM_inSummer_46 v2 A
      else
        (xj_gr A v0 7 5).bind fun x1 =>
        (xj_ai A x1 0 v3).bind fun x2 =>
        if v1 < x2 then
          fM_inSummer_38 (fM_inSummer_4 n) v0 v1 v3 A
        else
          (xj_gr A v0 7 6).bind fun x3 =>
          (xj_ai A x3 0 v3).bind fun x4 =>
          if x4 ≤ v1 then
            fM_inSummer_38 (fM_inSummer_4 n) v0 v1 v3 A
          else
            fM_inSummer_39 (fM_inSummer_4 n) v0 v1 v3 (1 : Int32) A
def fM_inSummer (v0 : xj_Rf) (v1 : Int32) (A : xj_H) : Option xj_R :=
  fM_inSummer_4 xj_fu v0 v1 (0 : Int32) (0 : Int32) A
theorem wM_inSummer_46 {l : Launch} (hl : l.stackTraces = false) {z : xj_F} (B : xj_B l yM_inSummer prog_11_method_15_code 4 (some .boolean) [] 1 z) (v2 : Int32) (A : xj_H) (h : fM_inSummer_46 v2 A = some (xf_r z)) : xj_W l z 46 [(2, .int v2)] [] A := by
  unfold fM_inSummer_46 at h
  refine xg_iload_n (pc := 46) (i := 2) B dM_inSummer_46 rfl rfl ?_
  exact xg_zret B dM_inSummer_47 h
theorem wM_inSummer_39 {l : Launch} (hl : l.stackTraces = false) {z : xj_F} (B : xj_B l yM_inSummer prog_11_method_15_code 4 (some .boolean) [] 1 z) (k4 : xj_Rf → Int32 → Int32 → Int32 → xj_H → Option xj_R) (hk4 : ∀ (v0 : xj_Rf) (v1 : Int32) (v2 : Int32) (v3 : Int32) (A : xj_H), k4 v0 v1 v2 v3 A = some (xf_r z) → xj_W l z 4 [(0, xj_rv v0), (1, .int v1), (2, .int v2), (3, .int v3)] [] A) (v0 : xj_Rf) (v1 : Int32) (v3 : Int32) (s0 : Int32) (A : xj_H) (h : fM_inSummer_39 k4 v0 v1 v3 s0 A = some (xf_r z)) : xj_W l z 39 [(0, xj_rv v0), (1, .int v1), (3, .int v3)] [.int s0] A := by
  unfold fM_inSummer_39 at h
  refine xg_istore_n (pc := 39) (i := 2) (ls' := [(2, .int s0), (0, xj_rv v0), (1, .int v1), (3, .int v3)]) B dM_inSummer_39 rfl (by decide) ⟨xj_nq (a := 0) (i := 2) (by decide), fun _ => rfl, xj_nq (a := 3) (i := 2) (by decide), trivial⟩ rfl ?_
  refine xg_iinc (pc := 40) (i := 3) (v := (v3 + 1)) (ls' := [(3, .int (v3 + 1)), (2, .int s0), (0, xj_rv v0), (1, .int v1)]) B dM_inSummer_40 rfl (xj_inc_1 _) (by decide) ⟨fun _ => rfl, xj_nq (a := 0) (i := 3) (by decide), xj_nq (a := 1) (i := 3) (by decide), xj_nq (a := 3) (i := 3) (by decide), trivial⟩ rfl ?_
  refine xg_goto (pc := 43) (tgt := 4) B dM_inSummer_43 (by decide) ?_
  refine xg_sub (ls' := [(0, xj_rv v0), (1, .int v1), (2, .int s0), (3, .int (v3 + 1))]) [2, 3, 1, 0] rfl ?_
  exact hk4 v0 v1 s0 (v3 + 1) A h
theorem wM_inSummer_38 {l : Launch} (hl : l.stackTraces = false) {z : xj_F} (B : xj_B l yM_inSummer prog_11_method_15_code 4 (some .boolean) [] 1 z) (k4 : xj_Rf → Int32 → Int32 → Int32 → xj_H → Option xj_R) (hk4 : ∀ (v0 : xj_Rf) (v1 : Int32) (v2 : Int32) (v3 : Int32) (A : xj_H), k4 v0 v1 v2 v3 A = some (xf_r z) → xj_W l z 4 [(0, xj_rv v0), (1, .int v1), (2, .int v2), (3, .int v3)] [] A) (v0 : xj_Rf) (v1 : Int32) (v3 : Int32) (A : xj_H) (h : fM_inSummer_38 k4 v0 v1 v3 A = some (xf_r z)) : xj_W l z 38 [(0, xj_rv v0), (1, .int v1), (3, .int v3)] [] A := by
  unfold fM_inSummer_38 at h
  refine xg_iconst (pc := 38) (v := 0) B dM_inSummer_38 (by decide) ?_
  exact wM_inSummer_39 hl B k4 hk4 v0 v1 v3 (0 : Int32) A h
theorem wM_inSummer_4 {l : Launch} (hl : l.stackTraces = false) {z : xj_F} (B : xj_B l yM_inSummer prog_11_method_15_code 4 (some .boolean) [] 1 z) : ∀ (n : Nat) (v0 : xj_Rf) (v1 : Int32) (v2 : Int32) (v3 : Int32) (A : xj_H), fM_inSummer_4 n v0 v1 v2 v3 A = some (xf_r z) → xj_W l z 4 [(0, xj_rv v0), (1, .int v1), (2, .int v2), (3, .int v3)] [] A
  | 0, _, _, _, _, _, h => by simp [fM_inSummer_4] at h
  | n + 1, v0, v1, v2, v3, A, h => by
    rw [fM_inSummer_4] at h
    refine xg_iload_n (pc := 4) (i := 3) B dM_inSummer_4 rfl rfl ?_
    refine xg_bipush (pc := 5) (v := 100) B dM_inSummer_5 (by decide) ?_
    refine xg_icmp_ge (pc := 7) (tgt := 46) B dM_inSummer_7 (by decide) h (fun c7 h => ?_) (fun c7 h => ?_)
    · refine xg_sub (ls' := [(2, .int v2)]) [2] rfl ?_
      exact wM_inSummer_46 hl B v2 A h
    · refine xg_iload_n (pc := 10) (i := 2) B dM_inSummer_10 rfl rfl ?_
      refine xg_if_ne (pc := 11) (tgt := 46) B dM_inSummer_11 (by decide) h (fun c11 h => ?_) (fun c11 h => ?_)
      · refine xg_sub (ls' := [(2, .int v2)]) [2] rfl ?_
        exact wM_inSummer_46 hl B v2 A h
      · refine xg_iload_n (pc := 14) (i := 1) B dM_inSummer_14 rfl rfl ?_
        refine xg_aload_n (pc := 15) (i := 0) (r := v0) B dM_inSummer_15 rfl rfl ?_
        refine xg_getr (pc := 16) B dM_inSummer_16 flM_13 h (fun x1 ex1 h => ?_)
        refine xg_iload_n (pc := 19) (i := 3) B dM_inSummer_19 rfl rfl ?_
        refine xg_iaload (pc := 20) B dM_inSummer_20 h (fun x2 ex2 h => ?_)
        refine xg_icmp_lt (pc := 21) (tgt := 38) B dM_inSummer_21 (by decide) h (fun c21 h => ?_) (fun c21 h => ?_)
        · refine xg_sub (ls' := [(0, xj_rv v0), (1, .int v1), (3, .int v3)]) [0, 1, 3] rfl ?_
          exact wM_inSummer_38 hl B (fM_inSummer_4 n) (wM_inSummer_4 hl B n) v0 v1 v3 A h
        · refine xg_iload_n (pc := 24) (i := 1) B dM_inSummer_24 rfl rfl ?_
          refine xg_aload_n (pc := 25) (i := 0) (r := v0) B dM_inSummer_25 rfl rfl ?_
          refine xg_getr (pc := 26) B dM_inSummer_26 flM_16 h (fun x3 ex3 h => ?_)
          refine xg_iload_n (pc := 29) (i := 3) B dM_inSummer_29 rfl rfl ?_
          refine xg_iaload (pc := 30) B dM_inSummer_30 h (fun x4 ex4 h => ?_)
          refine xg_icmp_ge (pc := 31) (tgt := 38) B dM_inSummer_31 (by decide) h (fun c31 h => ?_) (fun c31 h => ?_)
          · refine xg_sub (ls' := [(0, xj_rv v0), (1, .int v1), (3, .int v3)]) [0, 1, 3] rfl ?_
            exact wM_inSummer_38 hl B (fM_inSummer_4 n) (wM_inSummer_4 hl B n) v0 v1 v3 A h
          · refine xg_iconst (pc := 34) (v := 1) B dM_inSummer_34 (by decide) ?_
            refine xg_goto (pc := 35) (tgt := 39) B dM_inSummer_35 (by decide) ?_
            refine xg_sub (ls' := [(0, xj_rv v0), (1, .int v1), (3, .int v3)]) [0, 1, 3] rfl ?_
            exact wM_inSummer_39 hl B (fM_inSummer_4 n) (wM_inSummer_4 hl B n) v0 v1 v3 (1 : Int32) A h
theorem wM_inSummer {l : Launch} (hl : l.stackTraces = false) {z : xj_F} (B : xj_B l yM_inSummer prog_11_method_15_code 4 (some .boolean) [] 1 z) (v0 : xj_Rf) (v1 : Int32) (A : xj_H) (h : fM_inSummer v0 v1 A = some (xf_r z)) : xj_W l z 0 [(0, xj_rv v0), (1, .int v1)] [] A := by
  unfold fM_inSummer at h
  refine xg_iconst (pc := 0) (v := 0) B dM_inSummer_0 (by decide) ?_
  refine xg_istore_n (pc := 1) (i := 2) (ls' := [(2, .int (0 : Int32)), (0, xj_rv v0), (1, .int v1)]) B dM_inSummer_1 rfl (by decide) ⟨xj_nq (a := 0) (i := 2) (by decide), fun _ => rfl, trivial⟩ rfl ?_
  refine xg_iconst (pc := 2) (v := 0) B dM_inSummer_2 (by decide) ?_
  refine xg_istore_n (pc := 3) (i := 3) (ls' := [(3, .int (0 : Int32)), (2, .int (0 : Int32)), (0, xj_rv v0), (1, .int v1)]) B dM_inSummer_3 rfl (by decide) ⟨fun _ => rfl, xj_nq (a := 0) (i := 3) (by decide), xj_nq (a := 1) (i := 3) (by decide), trivial⟩ rfl ?_
  refine xg_sub (ls' := [(0, xj_rv v0), (1, .int v1), (2, .int (0 : Int32)), (3, .int (0 : Int32))]) [2, 3, 1, 0] rfl ?_
  exact wM_inSummer_4 hl B xj_fu v0 v1 (0 : Int32) (0 : Int32) A h
theorem cM_inSummer {l : Launch} (hl : l.stackTraces = false) (v0 : xj_Rf) (v1 : Int32) (A : xj_H) (r : xj_R) (h : fM_inSummer v0 v1 A = some r) : xj_M l yM_inSummer prog_11_method_15_code 4 (some .boolean) [] 1 [xj_rv v0, .int v1] A r := by
  refine xj_M.of hl (by decide +kernel) (by simp [lg_sl, xj_ic, xj_lc, xj_rv_cat]) (fun z B hA hr => ?_)
  subst hr
  have hw := wM_inSummer hl B v0 v1 A h
  simpa [lv_args, xj_ic, xj_lc, xj_rv_cat] using hw
/-! RecurrenceBookModel.momentOf(I)I -/
def fM_momentOf_28 (s0 : Int32) (A : xj_H) : Option xj_R :=
  some (.inl (some (.int s0)), A)
def fM_momentOf (v0 : xj_Rf) (v1 : Int32) (A : xj_H) : Option xj_R :=
  (xj_gi A v0 7 4).bind fun x1 =>
  xj_bi (xj_rq A v0 7 (fM_inSummer v0 (v1 - x1) A)) fun x2 A3 =>
  if x2 = 0 then
    (xj_gi A3 v0 7 3).bind fun x4 =>
    fM_momentOf_28 (v1 - x4) A3
  else
    (xj_gi A3 v0 7 4).bind fun x5 =>
    fM_momentOf_28 (v1 - x5) A3
theorem wM_momentOf_28 {l : Launch} (hl : l.stackTraces = false) {z : xj_F} (B : xj_B l yM_momentOf prog_11_method_16_code 2 (some .int) [] 2 z) (s0 : Int32) (A : xj_H) (h : fM_momentOf_28 s0 A = some (xf_r z)) : xj_W l z 28 [] [.int s0] A := by
  unfold fM_momentOf_28 at h
  exact xg_iret B dM_momentOf_28 h
theorem wM_momentOf {l : Launch} (hl : l.stackTraces = false) {z : xj_F} (B : xj_B l yM_momentOf prog_11_method_16_code 2 (some .int) [] 2 z) (v0 : xj_Rf) (v1 : Int32) (A : xj_H) (h : fM_momentOf v0 v1 A = some (xf_r z)) : xj_W l z 0 [(0, xj_rv v0), (1, .int v1)] [] A := by
  unfold fM_momentOf at h
  refine xg_aload_n (pc := 0) (i := 0) (r := v0) B dM_momentOf_0 rfl rfl ?_
  refine xg_iload_n (pc := 1) (i := 1) B dM_momentOf_1 rfl rfl ?_
  refine xg_aload_n (pc := 2) (i := 0) (r := v0) B dM_momentOf_2 rfl rfl ?_
  refine xg_geti (pc := 3) B dM_momentOf_3 flM_98 h (fun x1 ex1 h => ?_)
  refine xg_isub (pc := 6) B dM_momentOf_6 ?_
  obtain ⟨hq7, h⟩ := xj_rq_i h
  refine xg_ci (pc := 7) (av := [xj_rv v0, .int (v1 - x1)]) (st := []) (cy := prog_11_method_15_code) (nLy := 4) (rety := (some .boolean)) (hsy := []) B dM_momentOf_7 (xj_go_v B dM_momentOf_7 vwM_108 rfl hq7) (xj_vw_c vwM_108) (xj_vw_i vwM_108) (by decide) (by decide) (by decide) rfl (fun r9 h9 => cM_inSummer hl _ _ _ r9 h9) h (fun x2 A3 eA3 h => ?_)
  refine xg_if_eq (pc := 10) (tgt := 22) B dM_momentOf_10 (by decide) h (fun c10 h => ?_) (fun c10 h => ?_)
  · refine xg_iload_n (pc := 22) (i := 1) B dM_momentOf_22 rfl rfl ?_
    refine xg_aload_n (pc := 23) (i := 0) (r := v0) B dM_momentOf_23 rfl rfl ?_
    refine xg_geti (pc := 24) B dM_momentOf_24 flM_95 h (fun x4 ex4 h => ?_)
    refine xg_isub (pc := 27) B dM_momentOf_27 ?_
    refine xg_sub (ls' := []) [] rfl ?_
    exact wM_momentOf_28 hl B (v1 - x4) A3 h
  · refine xg_iload_n (pc := 13) (i := 1) B dM_momentOf_13 rfl rfl ?_
    refine xg_aload_n (pc := 14) (i := 0) (r := v0) B dM_momentOf_14 rfl rfl ?_
    refine xg_geti (pc := 15) B dM_momentOf_15 flM_98 h (fun x5 ex5 h => ?_)
    refine xg_isub (pc := 18) B dM_momentOf_18 ?_
    refine xg_goto (pc := 19) (tgt := 28) B dM_momentOf_19 (by decide) ?_
    refine xg_sub (ls' := []) [] rfl ?_
    exact wM_momentOf_28 hl B (v1 - x5) A3 h
theorem cM_momentOf {l : Launch} (hl : l.stackTraces = false) (v0 : xj_Rf) (v1 : Int32) (A : xj_H) (r : xj_R) (h : fM_momentOf v0 v1 A = some r) : xj_M l yM_momentOf prog_11_method_16_code 2 (some .int) [] 2 [xj_rv v0, .int v1] A r := by
  refine xj_M.of hl (by decide +kernel) (by simp [lg_sl, xj_ic, xj_lc, xj_rv_cat]) (fun z B hA hr => ?_)
  subst hr
  have hw := wM_momentOf hl B v0 v1 A h
  simpa [lv_args, xj_ic, xj_lc, xj_rv_cat] using hw
/-! RecurrenceBookModel.local(I)I -/
def fM_local_25 (s0 : Int32) (s1 : Int32) (A : xj_H) : Option xj_R :=
  some (.inl (some (.int (s1 + s0))), A)
def fM_local (v0 : xj_Rf) (v1 : Int32) (A : xj_H) : Option xj_R :=
  (xj_pv A v0 7 0 (.int (0 : Int32))).bind fun A1 =>
  xj_bi (xj_rq A1 v0 7 (fM_inSummer v0 v1 A1)) fun x2 A3 =>
  if x2 = 0 then
    (xj_gi A3 v0 7 3).bind fun x4 =>
    fM_local_25 x4 v1 A3
  else
    (xj_gi A3 v0 7 4).bind fun x5 =>
    fM_local_25 x5 v1 A3
theorem wM_local_25 {l : Launch} (hl : l.stackTraces = false) {z : xj_F} (B : xj_B l yM_local prog_11_method_17_code 2 (some .int) [] 2 z) (s0 : Int32) (s1 : Int32) (A : xj_H) (h : fM_local_25 s0 s1 A = some (xf_r z)) : xj_W l z 25 [] [.int s0, .int s1] A := by
  unfold fM_local_25 at h
  refine xg_iadd (pc := 25) B dM_local_25 ?_
  exact xg_iret B dM_local_26 h
theorem wM_local {l : Launch} (hl : l.stackTraces = false) {z : xj_F} (B : xj_B l yM_local prog_11_method_17_code 2 (some .int) [] 2 z) (v0 : xj_Rf) (v1 : Int32) (A : xj_H) (h : fM_local v0 v1 A = some (xf_r z)) : xj_W l z 0 [(0, xj_rv v0), (1, .int v1)] [] A := by
  unfold fM_local at h
  refine xg_aload_n (pc := 0) (i := 0) (r := v0) B dM_local_0 rfl rfl ?_
  refine xg_iconst (pc := 1) (v := 0) B dM_local_1 (by decide) ?_
  refine xg_puti (pc := 2) B dM_local_2 (fpM_60 _) h (fun A1 eA1 h => ?_)
  refine xg_iload_n (pc := 5) (i := 1) B dM_local_5 rfl rfl ?_
  refine xg_aload_n (pc := 6) (i := 0) (r := v0) B dM_local_6 rfl rfl ?_
  refine xg_iload_n (pc := 7) (i := 1) B dM_local_7 rfl rfl ?_
  obtain ⟨hq8, h⟩ := xj_rq_i h
  refine xg_ci (pc := 8) (av := [xj_rv v0, .int v1]) (st := [.int v1]) (cy := prog_11_method_15_code) (nLy := 4) (rety := (some .boolean)) (hsy := []) B dM_local_8 (xj_go_v B dM_local_8 vwM_108 rfl hq8) (xj_vw_c vwM_108) (xj_vw_i vwM_108) (by decide) (by decide) (by simp [xj_ic, xj_lc, xj_rv_cat]) rfl (fun r9 h9 => cM_inSummer hl _ _ _ r9 h9) h (fun x2 A3 eA3 h => ?_)
  refine xg_if_eq (pc := 11) (tgt := 21) B dM_local_11 (by decide) h (fun c11 h => ?_) (fun c11 h => ?_)
  · refine xg_aload_n (pc := 21) (i := 0) (r := v0) B dM_local_21 rfl rfl ?_
    refine xg_geti (pc := 22) B dM_local_22 flM_95 h (fun x4 ex4 h => ?_)
    refine xg_sub (ls' := []) [] rfl ?_
    exact wM_local_25 hl B x4 v1 A3 h
  · refine xg_aload_n (pc := 14) (i := 0) (r := v0) B dM_local_14 rfl rfl ?_
    refine xg_geti (pc := 15) B dM_local_15 flM_98 h (fun x5 ex5 h => ?_)
    refine xg_goto (pc := 18) (tgt := 25) B dM_local_18 (by decide) ?_
    refine xg_sub (ls' := []) [] rfl ?_
    exact wM_local_25 hl B x5 v1 A3 h
theorem cM_local {l : Launch} (hl : l.stackTraces = false) (v0 : xj_Rf) (v1 : Int32) (A : xj_H) (r : xj_R) (h : fM_local v0 v1 A = some r) : xj_M l yM_local prog_11_method_17_code 2 (some .int) [] 2 [xj_rv v0, .int v1] A r := by
  refine xj_M.of hl (by decide +kernel) (by simp [lg_sl, xj_ic, xj_lc, xj_rv_cat]) (fun z B hA hr => ?_)
  subst hr
  have hw := wM_local hl B v0 v1 A h
  simpa [lv_args, xj_ic, xj_lc, xj_rv_cat] using hw
/-! RecurrenceBookModel.type(C)Z -/
def fM_type (v0 : xj_Rf) (v1 : Int32) (A : xj_H) : Option xj_R :=
  (xj_pv A v0 7 0 (.int (0 : Int32))).bind fun A1 =>
  (xj_gi A1 v0 7 2).bind fun x2 =>
  if ¬ x2 = (60 : Int32) then
    (xj_gr A1 v0 7 1).bind fun x3 =>
    (xj_gi A1 v0 7 2).bind fun x4 =>
    (xj_as A1 x3 0 x4 v1).bind fun A5 =>
    (xj_gi A5 v0 7 2).bind fun x6 =>
    (xj_pv A5 v0 7 2 (.int (x6 + (1 : Int32)))).bind fun A7 =>
    xj_rz (1 : Int32) A7
  else
    xj_rz (0 : Int32) A1
theorem wM_type {l : Launch} (hl : l.stackTraces = false) {z : xj_F} (B : xj_B l yM_type prog_11_method_18_code 2 (some .boolean) [] 1 z) (v0 : xj_Rf) (v1 : Int32) (A : xj_H) (h : fM_type v0 v1 A = some (xf_r z)) : xj_W l z 0 [(0, xj_rv v0), (1, .int v1)] [] A := by
  unfold fM_type at h
  refine xg_aload_n (pc := 0) (i := 0) (r := v0) B dM_type_0 rfl rfl ?_
  refine xg_iconst (pc := 1) (v := 0) B dM_type_1 (by decide) ?_
  refine xg_puti (pc := 2) B dM_type_2 (fpM_60 _) h (fun A1 eA1 h => ?_)
  refine xg_aload_n (pc := 5) (i := 0) (r := v0) B dM_type_5 rfl rfl ?_
  refine xg_geti (pc := 6) B dM_type_6 flM_112 h (fun x2 ex2 h => ?_)
  refine xg_bipush (pc := 9) (v := 60) B dM_type_9 (by decide) ?_
  refine xg_icmp_ne (pc := 11) (tgt := 16) B dM_type_11 (by decide) h (fun c11 h => ?_) (fun c11 h => ?_)
  · refine xg_aload_n (pc := 16) (i := 0) (r := v0) B dM_type_16 rfl rfl ?_
    refine xg_getr (pc := 17) B dM_type_17 flM_7 h (fun x3 ex3 h => ?_)
    refine xg_aload_n (pc := 20) (i := 0) (r := v0) B dM_type_20 rfl rfl ?_
    refine xg_geti (pc := 21) B dM_type_21 flM_112 h (fun x4 ex4 h => ?_)
    refine xg_iload_n (pc := 24) (i := 1) B dM_type_24 rfl rfl ?_
    refine xg_iastore (pc := 25) B dM_type_25 h (fun A5 eA5 h => ?_)
    refine xg_aload_n (pc := 26) (i := 0) (r := v0) B dM_type_26 rfl rfl ?_
    refine xg_dup (pc := 27) B dM_type_27 (xj_rv_cat v0) ?_
    refine xg_geti (pc := 28) B dM_type_28 flM_112 h (fun x6 ex6 h => ?_)
    refine xg_iconst (pc := 31) (v := 1) B dM_type_31 (by decide) ?_
    refine xg_iadd (pc := 32) B dM_type_32 ?_
    refine xg_puti (pc := 33) B dM_type_33 (fpM_112 _) h (fun A7 eA7 h => ?_)
    refine xg_iconst (pc := 36) (v := 1) B dM_type_36 (by decide) ?_
    exact xg_zret B dM_type_37 h
  · refine xg_iconst (pc := 14) (v := 0) B dM_type_14 (by decide) ?_
    exact xg_zret B dM_type_15 h
theorem cM_type {l : Launch} (hl : l.stackTraces = false) (v0 : xj_Rf) (v1 : Int32) (A : xj_H) (r : xj_R) (h : fM_type v0 v1 A = some r) : xj_M l yM_type prog_11_method_18_code 2 (some .boolean) [] 1 [xj_rv v0, .int v1] A r := by
  refine xj_M.of hl (by decide +kernel) (by simp [lg_sl, xj_ic, xj_lc, xj_rv_cat]) (fun z B hA hr => ?_)
  subst hr
  have hw := wM_type hl B v0 v1 A h
  simpa [lv_args, xj_ic, xj_lc, xj_rv_cat] using hw
/-! RecurrenceBookModel.look()I -/
def fM_look_24 (s0 : Int32) (A : xj_H) : Option xj_R :=
  some (.inl (some (.int s0)), A)
def fM_look (v0 : xj_Rf) (A : xj_H) : Option xj_R :=
  (xj_gi A v0 7 14).bind fun x1 =>
  (xj_gi A v0 7 2).bind fun x2 =>
  if x2 ≤ x1 then
    fM_look_24 (-1 : Int32) A
  else
    (xj_gr A v0 7 1).bind fun x3 =>
    (xj_gi A v0 7 14).bind fun x4 =>
    (xj_ai A x3 0 x4).bind fun x5 =>
    fM_look_24 x5 A
theorem wM_look_24 {l : Launch} (hl : l.stackTraces = false) {z : xj_F} (B : xj_B l yM_look prog_11_method_19_code 1 (some .int) [] 1 z) (s0 : Int32) (A : xj_H) (h : fM_look_24 s0 A = some (xf_r z)) : xj_W l z 24 [] [.int s0] A := by
  unfold fM_look_24 at h
  exact xg_iret B dM_look_24 h
theorem wM_look {l : Launch} (hl : l.stackTraces = false) {z : xj_F} (B : xj_B l yM_look prog_11_method_19_code 1 (some .int) [] 1 z) (v0 : xj_Rf) (A : xj_H) (h : fM_look v0 A = some (xf_r z)) : xj_W l z 0 [(0, xj_rv v0)] [] A := by
  unfold fM_look at h
  refine xg_aload_n (pc := 0) (i := 0) (r := v0) B dM_look_0 rfl rfl ?_
  refine xg_geti (pc := 1) B dM_look_1 flM_115 h (fun x1 ex1 h => ?_)
  refine xg_aload_n (pc := 4) (i := 0) (r := v0) B dM_look_4 rfl rfl ?_
  refine xg_geti (pc := 5) B dM_look_5 flM_112 h (fun x2 ex2 h => ?_)
  refine xg_icmp_ge (pc := 8) (tgt := 23) B dM_look_8 (by decide) h (fun c8 h => ?_) (fun c8 h => ?_)
  · refine xg_iconst (pc := 23) (v := -1) B dM_look_23 (by decide) ?_
    refine xg_sub (ls' := []) [] rfl ?_
    exact wM_look_24 hl B (-1 : Int32) A h
  · refine xg_aload_n (pc := 11) (i := 0) (r := v0) B dM_look_11 rfl rfl ?_
    refine xg_getr (pc := 12) B dM_look_12 flM_7 h (fun x3 ex3 h => ?_)
    refine xg_aload_n (pc := 15) (i := 0) (r := v0) B dM_look_15 rfl rfl ?_
    refine xg_geti (pc := 16) B dM_look_16 flM_115 h (fun x4 ex4 h => ?_)
    refine xg_iaload (pc := 19) B dM_look_19 h (fun x5 ex5 h => ?_)
    refine xg_goto (pc := 20) (tgt := 24) B dM_look_20 (by decide) ?_
    refine xg_sub (ls' := []) [] rfl ?_
    exact wM_look_24 hl B x5 A h
theorem cM_look {l : Launch} (hl : l.stackTraces = false) (v0 : xj_Rf) (A : xj_H) (r : xj_R) (h : fM_look v0 A = some r) : xj_M l yM_look prog_11_method_19_code 1 (some .int) [] 1 [xj_rv v0] A r := by
  refine xj_M.of hl (by decide +kernel) (by simp [lg_sl, xj_ic, xj_lc, xj_rv_cat]) (fun z B hA hr => ?_)
  subst hr
  have hw := wM_look hl B v0 A h
  simpa [lv_args, xj_ic, xj_lc, xj_rv_cat] using hw
/-! RecurrenceBookModel.takes(I)Z -/
def fM_takes_32 (v2 : Int32) (s0 : Int32) (s1 : xj_Rf) (A : xj_H) : Option xj_R :=
  (xj_pv A s1 7 14 (.int s0)).bind fun A1 =>
  xj_rz v2 A1
def fM_takes_13 (v0 : xj_Rf) (s0 : Int32) (A : xj_H) : Option xj_R :=
  if s0 = 0 then
    (xj_gi A v0 7 14).bind fun x1 =>
    fM_takes_32 s0 x1 v0 A
  else
    (xj_gi A v0 7 14).bind fun x2 =>
    fM_takes_32 s0 (x2 + (1 : Int32)) v0 A
def fM_takes (v0 : xj_Rf) (v1 : Int32) (A : xj_H) : Option xj_R :=
  xj_bi (xj_rq A v0 7 (fM_look v0 A)) fun x1 A2 =>
  if ¬ x1 = v1 then
    fM_takes_13 v0 (0 : Int32) A2
  else
    fM_takes_13 v0 (1 : Int32) A2
theorem wM_takes_32 {l : Launch} (hl : l.stackTraces = false) {z : xj_F} (B : xj_B l yM_takes prog_11_method_20_code 3 (some .boolean) [] 2 z) (v2 : Int32) (s0 : Int32) (s1 : xj_Rf) (A : xj_H) (h : fM_takes_32 v2 s0 s1 A = some (xf_r z)) : xj_W l z 32 [(2, .int v2)] [.int s0, xj_rv s1] A := by
  unfold fM_takes_32 at h
  refine xg_puti (pc := 32) B dM_takes_32 (fpM_115 _) h (fun A1 eA1 h => ?_)
  refine xg_iload_n (pc := 35) (i := 2) B dM_takes_35 rfl rfl ?_
  exact xg_zret B dM_takes_36 h
theorem wM_takes_13 {l : Launch} (hl : l.stackTraces = false) {z : xj_F} (B : xj_B l yM_takes prog_11_method_20_code 3 (some .boolean) [] 2 z) (v0 : xj_Rf) (s0 : Int32) (A : xj_H) (h : fM_takes_13 v0 s0 A = some (xf_r z)) : xj_W l z 13 [(0, xj_rv v0)] [.int s0] A := by
  unfold fM_takes_13 at h
  refine xg_istore_n (pc := 13) (i := 2) (ls' := [(2, .int s0), (0, xj_rv v0)]) B dM_takes_13 rfl (by decide) ⟨xj_nq (a := 0) (i := 2) (by decide), trivial⟩ rfl ?_
  refine xg_aload_n (pc := 14) (i := 0) (r := v0) B dM_takes_14 rfl rfl ?_
  refine xg_iload_n (pc := 15) (i := 2) B dM_takes_15 rfl rfl ?_
  refine xg_if_eq (pc := 16) (tgt := 28) B dM_takes_16 (by decide) h (fun c16 h => ?_) (fun c16 h => ?_)
  · refine xg_aload_n (pc := 28) (i := 0) (r := v0) B dM_takes_28 rfl rfl ?_
    refine xg_geti (pc := 29) B dM_takes_29 flM_115 h (fun x1 ex1 h => ?_)
    refine xg_sub (ls' := [(2, .int s0)]) [0] rfl ?_
    exact wM_takes_32 hl B s0 x1 v0 A h
  · refine xg_aload_n (pc := 19) (i := 0) (r := v0) B dM_takes_19 rfl rfl ?_
    refine xg_geti (pc := 20) B dM_takes_20 flM_115 h (fun x2 ex2 h => ?_)
    refine xg_iconst (pc := 23) (v := 1) B dM_takes_23 (by decide) ?_
    refine xg_iadd (pc := 24) B dM_takes_24 ?_
    refine xg_goto (pc := 25) (tgt := 32) B dM_takes_25 (by decide) ?_
    refine xg_sub (ls' := [(2, .int s0)]) [0] rfl ?_
    exact wM_takes_32 hl B s0 (x2 + (1 : Int32)) v0 A h
theorem wM_takes {l : Launch} (hl : l.stackTraces = false) {z : xj_F} (B : xj_B l yM_takes prog_11_method_20_code 3 (some .boolean) [] 2 z) (v0 : xj_Rf) (v1 : Int32) (A : xj_H) (h : fM_takes v0 v1 A = some (xf_r z)) : xj_W l z 0 [(0, xj_rv v0), (1, .int v1)] [] A := by
  unfold fM_takes at h
  refine xg_aload_n (pc := 0) (i := 0) (r := v0) B dM_takes_0 rfl rfl ?_
  obtain ⟨hq1, h⟩ := xj_rq_i h
  refine xg_ci (pc := 1) (av := [xj_rv v0]) (st := []) (cy := prog_11_method_19_code) (nLy := 1) (rety := (some .int)) (hsy := []) B dM_takes_1 (xj_go_v B dM_takes_1 vwM_118 rfl hq1) (xj_vw_c vwM_118) (xj_vw_i vwM_118) (by decide) (by decide) (by decide) rfl (fun r9 h9 => cM_look hl _ _ r9 h9) h (fun x1 A2 eA2 h => ?_)
  refine xg_iload_n (pc := 4) (i := 1) B dM_takes_4 rfl rfl ?_
  refine xg_icmp_ne (pc := 5) (tgt := 12) B dM_takes_5 (by decide) h (fun c5 h => ?_) (fun c5 h => ?_)
  · refine xg_iconst (pc := 12) (v := 0) B dM_takes_12 (by decide) ?_
    refine xg_sub (ls' := [(0, xj_rv v0)]) [0] rfl ?_
    exact wM_takes_13 hl B v0 (0 : Int32) A2 h
  · refine xg_iconst (pc := 8) (v := 1) B dM_takes_8 (by decide) ?_
    refine xg_goto (pc := 9) (tgt := 13) B dM_takes_9 (by decide) ?_
    refine xg_sub (ls' := [(0, xj_rv v0)]) [0] rfl ?_
    exact wM_takes_13 hl B v0 (1 : Int32) A2 h
theorem cM_takes {l : Launch} (hl : l.stackTraces = false) (v0 : xj_Rf) (v1 : Int32) (A : xj_H) (r : xj_R) (h : fM_takes v0 v1 A = some r) : xj_M l yM_takes prog_11_method_20_code 3 (some .boolean) [] 2 [xj_rv v0, .int v1] A r := by
  refine xj_M.of hl (by decide +kernel) (by simp [lg_sl, xj_ic, xj_lc, xj_rv_cat]) (fun z B hA hr => ?_)
  subst hr
  have hw := wM_takes hl B v0 v1 A h
  simpa [lv_args, xj_ic, xj_lc, xj_rv_cat] using hw
/-! RecurrenceBookModel.letters(I)J -/
def fM_letters_61 (v2 : Int64) (A : xj_H) : Option xj_R :=
  some (.inl (some (.long v2)), A)
def fM_letters_5 : Nat → xj_Rf → Int32 → Int64 → Int32 → xj_H → Option xj_R
  | 0, _, _, _, _, _ => none
  | n + 1, v0, v1, v2, v4, A =>
    if v1 ≤ v4 then
      fM_letters_61 v2 A
    else
      xj_bi (xj_rq A v0 7 (fM_look v0 A)) fun x1 A2 =>
      if x1 < (65 : Int32) then
        fM_letters_61 v2 A2
      else
        xj_bi (xj_rq A2 v0 7 (fM_look v0 A2)) fun x3 A4 =>
        if (90 : Int32) < x3 then
          fM_letters_61 v2 A4
        else
          xj_bi (xj_rq A4 v0 7 (fM_look v0 A4)) fun x5 A6 =>
          (xj_gi A6 v0 7 14).bind fun x7 =>
          (xj_pv A6 v0 7 14 (.int (x7 + (1 : Int32)))).bind fun A8 =>
          (fM_letters_5 n) v0 v1 (((v2 * (32 : Int64)) + (Int32.toInt64 x5)) - (64 : Int64)) (v4 + 1) A8
def fM_letters (v0 : xj_Rf) (v1 : Int32) (A : xj_H) : Option xj_R :=
  fM_letters_5 xj_fu v0 v1 (0 : Int64) (0 : Int32) A
theorem wM_letters_61 {l : Launch} (hl : l.stackTraces = false) {z : xj_F} (B : xj_B l yM_letters prog_11_method_21_code 5 (some .long) [] 2 z) (v2 : Int64) (A : xj_H) (h : fM_letters_61 v2 A = some (xf_r z)) : xj_W l z 61 [(2, .long v2)] [] A := by
  unfold fM_letters_61 at h
  refine xg_lload_n (pc := 61) (i := 2) B dM_letters_61 rfl rfl ?_
  exact xg_lret B dM_letters_62 h
theorem wM_letters_5 {l : Launch} (hl : l.stackTraces = false) {z : xj_F} (B : xj_B l yM_letters prog_11_method_21_code 5 (some .long) [] 2 z) : ∀ (n : Nat) (v0 : xj_Rf) (v1 : Int32) (v2 : Int64) (v4 : Int32) (A : xj_H), fM_letters_5 n v0 v1 v2 v4 A = some (xf_r z) → xj_W l z 5 [(0, xj_rv v0), (1, .int v1), (2, .long v2), (4, .int v4)] [] A
  | 0, _, _, _, _, _, h => by simp [fM_letters_5] at h
  | n + 1, v0, v1, v2, v4, A, h => by
    rw [fM_letters_5] at h
    refine xg_iload (pc := 5) (i := 4) B dM_letters_5 rfl ?_
    refine xg_iload_n (pc := 7) (i := 1) B dM_letters_7 rfl rfl ?_
    refine xg_icmp_ge (pc := 8) (tgt := 61) B dM_letters_8 (by decide) h (fun c8 h => ?_) (fun c8 h => ?_)
    · refine xg_sub (ls' := [(2, .long v2)]) [2] rfl ?_
      exact wM_letters_61 hl B v2 A h
    · refine xg_aload_n (pc := 11) (i := 0) (r := v0) B dM_letters_11 rfl rfl ?_
      obtain ⟨hq12, h⟩ := xj_rq_i h
      refine xg_ci (pc := 12) (av := [xj_rv v0]) (st := []) (cy := prog_11_method_19_code) (nLy := 1) (rety := (some .int)) (hsy := []) B dM_letters_12 (xj_go_v B dM_letters_12 vwM_118 rfl hq12) (xj_vw_c vwM_118) (xj_vw_i vwM_118) (by decide) (by decide) (by decide) rfl (fun r9 h9 => cM_look hl _ _ r9 h9) h (fun x1 A2 eA2 h => ?_)
      refine xg_bipush (pc := 15) (v := 65) B dM_letters_15 (by decide) ?_
      refine xg_icmp_lt (pc := 17) (tgt := 61) B dM_letters_17 (by decide) h (fun c17 h => ?_) (fun c17 h => ?_)
      · refine xg_sub (ls' := [(2, .long v2)]) [2] rfl ?_
        exact wM_letters_61 hl B v2 A2 h
      · refine xg_aload_n (pc := 20) (i := 0) (r := v0) B dM_letters_20 rfl rfl ?_
        obtain ⟨hq21, h⟩ := xj_rq_i h
        refine xg_ci (pc := 21) (av := [xj_rv v0]) (st := []) (cy := prog_11_method_19_code) (nLy := 1) (rety := (some .int)) (hsy := []) B dM_letters_21 (xj_go_v B dM_letters_21 vwM_118 rfl hq21) (xj_vw_c vwM_118) (xj_vw_i vwM_118) (by decide) (by decide) (by decide) rfl (fun r9 h9 => cM_look hl _ _ r9 h9) h (fun x3 A4 eA4 h => ?_)
        refine xg_bipush (pc := 24) (v := 90) B dM_letters_24 (by decide) ?_
        refine xg_icmp_gt (pc := 26) (tgt := 61) B dM_letters_26 (by decide) h (fun c26 h => ?_) (fun c26 h => ?_)
        · refine xg_sub (ls' := [(2, .long v2)]) [2] rfl ?_
          exact wM_letters_61 hl B v2 A4 h
        · refine xg_lload_n (pc := 29) (i := 2) B dM_letters_29 rfl rfl ?_
          refine xg_ldc2 (pc := 30) (v := 32) B dM_letters_30 kM_122 ?_
          refine xg_lmul (pc := 33) B dM_letters_33 ?_
          refine xg_aload_n (pc := 34) (i := 0) (r := v0) B dM_letters_34 rfl rfl ?_
          obtain ⟨hq35, h⟩ := xj_rq_i h
          refine xg_ci (pc := 35) (av := [xj_rv v0]) (st := [.long (v2 * (32 : Int64))]) (cy := prog_11_method_19_code) (nLy := 1) (rety := (some .int)) (hsy := []) B dM_letters_35 (xj_go_v B dM_letters_35 vwM_118 rfl hq35) (xj_vw_c vwM_118) (xj_vw_i vwM_118) (by decide) (by decide) (by simp [xj_ic, xj_lc, xj_rv_cat]) rfl (fun r9 h9 => cM_look hl _ _ r9 h9) h (fun x5 A6 eA6 h => ?_)
          refine xg_i2l (pc := 38) B dM_letters_38 ?_
          refine xg_ladd (pc := 39) B dM_letters_39 ?_
          refine xg_ldc2 (pc := 40) (v := 64) B dM_letters_40 kM_124 ?_
          refine xg_lsub (pc := 43) B dM_letters_43 ?_
          refine xg_lstore_n (pc := 44) (i := 2) (ls' := [(2, .long (((v2 * (32 : Int64)) + (Int32.toInt64 x5)) - (64 : Int64))), (0, xj_rv v0), (1, .int v1), (4, .int v4)]) B dM_letters_44 rfl (by decide) ⟨xj_nq (a := 0) (i := 2) (by decide), fun _ => rfl, xj_nq (a := 2) (i := 2) (by decide), xj_nq (a := 4) (i := 2) (by decide), trivial⟩ rfl ?_
          refine xg_aload_n (pc := 45) (i := 0) (r := v0) B dM_letters_45 rfl rfl ?_
          refine xg_dup (pc := 46) B dM_letters_46 (xj_rv_cat v0) ?_
          refine xg_geti (pc := 47) B dM_letters_47 flM_115 h (fun x7 ex7 h => ?_)
          refine xg_iconst (pc := 50) (v := 1) B dM_letters_50 (by decide) ?_
          refine xg_iadd (pc := 51) B dM_letters_51 ?_
          refine xg_puti (pc := 52) B dM_letters_52 (fpM_115 _) h (fun A8 eA8 h => ?_)
          refine xg_iinc (pc := 55) (i := 4) (v := (v4 + 1)) (ls' := [(4, .int (v4 + 1)), (2, .long (((v2 * (32 : Int64)) + (Int32.toInt64 x5)) - (64 : Int64))), (0, xj_rv v0), (1, .int v1)]) B dM_letters_55 rfl (xj_inc_1 _) (by decide) ⟨xj_nq (a := 2) (i := 4) (by decide), xj_nq (a := 0) (i := 4) (by decide), xj_nq (a := 1) (i := 4) (by decide), xj_nq (a := 4) (i := 4) (by decide), trivial⟩ rfl ?_
          refine xg_goto (pc := 58) (tgt := 5) B dM_letters_58 (by decide) ?_
          refine xg_sub (ls' := [(0, xj_rv v0), (1, .int v1), (2, .long (((v2 * (32 : Int64)) + (Int32.toInt64 x5)) - (64 : Int64))), (4, .int (v4 + 1))]) [2, 3, 1, 0] rfl ?_
          exact (wM_letters_5 hl B n) v0 v1 (((v2 * (32 : Int64)) + (Int32.toInt64 x5)) - (64 : Int64)) (v4 + 1) A8 h
theorem wM_letters {l : Launch} (hl : l.stackTraces = false) {z : xj_F} (B : xj_B l yM_letters prog_11_method_21_code 5 (some .long) [] 2 z) (v0 : xj_Rf) (v1 : Int32) (A : xj_H) (h : fM_letters v0 v1 A = some (xf_r z)) : xj_W l z 0 [(0, xj_rv v0), (1, .int v1)] [] A := by
  unfold fM_letters at h
  refine xg_lconst (pc := 0) (v := 0) B dM_letters_0 (by decide) ?_
  refine xg_lstore_n (pc := 1) (i := 2) (ls' := [(2, .long (0 : Int64)), (0, xj_rv v0), (1, .int v1)]) B dM_letters_1 rfl (by decide) ⟨xj_nq (a := 0) (i := 2) (by decide), fun _ => rfl, trivial⟩ rfl ?_
  refine xg_iconst (pc := 2) (v := 0) B dM_letters_2 (by decide) ?_
  refine xg_istore (pc := 3) (i := 4) (ls' := [(4, .int (0 : Int32)), (2, .long (0 : Int64)), (0, xj_rv v0), (1, .int v1)]) B dM_letters_3 (by decide) ⟨xj_nq (a := 2) (i := 4) (by decide), xj_nq (a := 0) (i := 4) (by decide), xj_nq (a := 1) (i := 4) (by decide), trivial⟩ rfl ?_
  refine xg_sub (ls' := [(0, xj_rv v0), (1, .int v1), (2, .long (0 : Int64)), (4, .int (0 : Int32))]) [2, 3, 1, 0] rfl ?_
  exact wM_letters_5 hl B xj_fu v0 v1 (0 : Int64) (0 : Int32) A h
theorem cM_letters {l : Launch} (hl : l.stackTraces = false) (v0 : xj_Rf) (v1 : Int32) (A : xj_H) (r : xj_R) (h : fM_letters v0 v1 A = some r) : xj_M l yM_letters prog_11_method_21_code 5 (some .long) [] 2 [xj_rv v0, .int v1] A r := by
  refine xj_M.of hl (by decide +kernel) (by simp [lg_sl, xj_ic, xj_lc, xj_rv_cat]) (fun z B hA hr => ?_)
  subst hr
  have hw := wM_letters hl B v0 v1 A h
  simpa [lv_args, xj_ic, xj_lc, xj_rv_cat] using hw
/-! RecurrenceBookModel.digits(I)I -/
def fM_digits_64 (v2 : Int32) (A : xj_H) : Option xj_R :=
  some (.inl (some (.int v2)), A)
def fM_digits_39 (k4 : xj_Rf → Int32 → Int32 → Int32 → xj_H → Option xj_R) (v0 : xj_Rf) (v1 : Int32) (v3 : Int32) (s0 : Int32) (A : xj_H) : Option xj_R :=
  xj_bi (xj_rq A v0 7 (fM_look v0 A)) fun x1 A2 =>
  (xj_gi A2 v0 7 14).bind fun x3 =>
  (xj_pv A2 v0 7 14 (.int (x3 + (1 : Int32)))).bind fun A4 =>
  k4 v0 v1 ((s0 + x1) - (48 : Int32)) (v3 + 1) A4
def fM_digits_4 : Nat → xj_Rf → Int32 → Int32 → Int32 → xj_H → Option xj_R
  | 0, _, _, _, _, _ => none
  | n + 1, v0, v1, v2, v3, A =>
    if v1 ≤ v3 then
      fM_digits_64 v2 A
    else
      xj_bi (xj_rq A v0 7 (fM_look v0 A)) fun x1 A2 =>
      if x1 < (48 : Int32) then
        fM_digits_64 v2 A2
      else
        xj_bi (xj_rq A2 v0 7 (fM_look v0 A2)) fun x3 A4 =>
        if (57 : Int32) < x3 then
          fM_digits_64 v2 A4
        else
          if 0 ≤ v2 then
            fM_digits_39 (fM_digits_4 n) v0 v1 v3 ((10 : Int32) * v2) A4
          else
            fM_digits_39 (fM_digits_4 n) v0 v1 v3 (0 : Int32) A4
def fM_digits (v0 : xj_Rf) (v1 : Int32) (A : xj_H) : Option xj_R :=
  fM_digits_4 xj_fu v0 v1 (-1 : Int32) (0 : Int32) A
theorem wM_digits_64 {l : Launch} (hl : l.stackTraces = false) {z : xj_F} (B : xj_B l yM_digits prog_11_method_22_code 4 (some .int) [] 2 z) (v2 : Int32) (A : xj_H) (h : fM_digits_64 v2 A = some (xf_r z)) : xj_W l z 64 [(2, .int v2)] [] A := by
  unfold fM_digits_64 at h
  refine xg_iload_n (pc := 64) (i := 2) B dM_digits_64 rfl rfl ?_
  exact xg_iret B dM_digits_65 h
theorem wM_digits_39 {l : Launch} (hl : l.stackTraces = false) {z : xj_F} (B : xj_B l yM_digits prog_11_method_22_code 4 (some .int) [] 2 z) (k4 : xj_Rf → Int32 → Int32 → Int32 → xj_H → Option xj_R) (hk4 : ∀ (v0 : xj_Rf) (v1 : Int32) (v2 : Int32) (v3 : Int32) (A : xj_H), k4 v0 v1 v2 v3 A = some (xf_r z) → xj_W l z 4 [(0, xj_rv v0), (1, .int v1), (2, .int v2), (3, .int v3)] [] A) (v0 : xj_Rf) (v1 : Int32) (v3 : Int32) (s0 : Int32) (A : xj_H) (h : fM_digits_39 k4 v0 v1 v3 s0 A = some (xf_r z)) : xj_W l z 39 [(0, xj_rv v0), (1, .int v1), (3, .int v3)] [.int s0] A := by
  unfold fM_digits_39 at h
  refine xg_aload_n (pc := 39) (i := 0) (r := v0) B dM_digits_39 rfl rfl ?_
  obtain ⟨hq40, h⟩ := xj_rq_i h
  refine xg_ci (pc := 40) (av := [xj_rv v0]) (st := [.int s0]) (cy := prog_11_method_19_code) (nLy := 1) (rety := (some .int)) (hsy := []) B dM_digits_40 (xj_go_v B dM_digits_40 vwM_118 rfl hq40) (xj_vw_c vwM_118) (xj_vw_i vwM_118) (by decide) (by decide) (by simp [xj_ic, xj_lc, xj_rv_cat]) rfl (fun r9 h9 => cM_look hl _ _ r9 h9) h (fun x1 A2 eA2 h => ?_)
  refine xg_iadd (pc := 43) B dM_digits_43 ?_
  refine xg_bipush (pc := 44) (v := 48) B dM_digits_44 (by decide) ?_
  refine xg_isub (pc := 46) B dM_digits_46 ?_
  refine xg_istore_n (pc := 47) (i := 2) (ls' := [(2, .int ((s0 + x1) - (48 : Int32))), (0, xj_rv v0), (1, .int v1), (3, .int v3)]) B dM_digits_47 rfl (by decide) ⟨xj_nq (a := 0) (i := 2) (by decide), fun _ => rfl, xj_nq (a := 3) (i := 2) (by decide), trivial⟩ rfl ?_
  refine xg_aload_n (pc := 48) (i := 0) (r := v0) B dM_digits_48 rfl rfl ?_
  refine xg_dup (pc := 49) B dM_digits_49 (xj_rv_cat v0) ?_
  refine xg_geti (pc := 50) B dM_digits_50 flM_115 h (fun x3 ex3 h => ?_)
  refine xg_iconst (pc := 53) (v := 1) B dM_digits_53 (by decide) ?_
  refine xg_iadd (pc := 54) B dM_digits_54 ?_
  refine xg_puti (pc := 55) B dM_digits_55 (fpM_115 _) h (fun A4 eA4 h => ?_)
  refine xg_iinc (pc := 58) (i := 3) (v := (v3 + 1)) (ls' := [(3, .int (v3 + 1)), (2, .int ((s0 + x1) - (48 : Int32))), (0, xj_rv v0), (1, .int v1)]) B dM_digits_58 rfl (xj_inc_1 _) (by decide) ⟨fun _ => rfl, xj_nq (a := 0) (i := 3) (by decide), xj_nq (a := 1) (i := 3) (by decide), xj_nq (a := 3) (i := 3) (by decide), trivial⟩ rfl ?_
  refine xg_goto (pc := 61) (tgt := 4) B dM_digits_61 (by decide) ?_
  refine xg_sub (ls' := [(0, xj_rv v0), (1, .int v1), (2, .int ((s0 + x1) - (48 : Int32))), (3, .int (v3 + 1))]) [2, 3, 1, 0] rfl ?_
  exact hk4 v0 v1 ((s0 + x1) - (48 : Int32)) (v3 + 1) A4 h
theorem wM_digits_4 {l : Launch} (hl : l.stackTraces = false) {z : xj_F} (B : xj_B l yM_digits prog_11_method_22_code 4 (some .int) [] 2 z) : ∀ (n : Nat) (v0 : xj_Rf) (v1 : Int32) (v2 : Int32) (v3 : Int32) (A : xj_H), fM_digits_4 n v0 v1 v2 v3 A = some (xf_r z) → xj_W l z 4 [(0, xj_rv v0), (1, .int v1), (2, .int v2), (3, .int v3)] [] A
  | 0, _, _, _, _, _, h => by simp [fM_digits_4] at h
  | n + 1, v0, v1, v2, v3, A, h => by
    rw [fM_digits_4] at h
    refine xg_iload_n (pc := 4) (i := 3) B dM_digits_4 rfl rfl ?_
    refine xg_iload_n (pc := 5) (i := 1) B dM_digits_5 rfl rfl ?_
    refine xg_icmp_ge (pc := 6) (tgt := 64) B dM_digits_6 (by decide) h (fun c6 h => ?_) (fun c6 h => ?_)
    · refine xg_sub (ls' := [(2, .int v2)]) [2] rfl ?_
      exact wM_digits_64 hl B v2 A h
    · refine xg_aload_n (pc := 9) (i := 0) (r := v0) B dM_digits_9 rfl rfl ?_
      obtain ⟨hq10, h⟩ := xj_rq_i h
      refine xg_ci (pc := 10) (av := [xj_rv v0]) (st := []) (cy := prog_11_method_19_code) (nLy := 1) (rety := (some .int)) (hsy := []) B dM_digits_10 (xj_go_v B dM_digits_10 vwM_118 rfl hq10) (xj_vw_c vwM_118) (xj_vw_i vwM_118) (by decide) (by decide) (by decide) rfl (fun r9 h9 => cM_look hl _ _ r9 h9) h (fun x1 A2 eA2 h => ?_)
      refine xg_bipush (pc := 13) (v := 48) B dM_digits_13 (by decide) ?_
      refine xg_icmp_lt (pc := 15) (tgt := 64) B dM_digits_15 (by decide) h (fun c15 h => ?_) (fun c15 h => ?_)
      · refine xg_sub (ls' := [(2, .int v2)]) [2] rfl ?_
        exact wM_digits_64 hl B v2 A2 h
      · refine xg_aload_n (pc := 18) (i := 0) (r := v0) B dM_digits_18 rfl rfl ?_
        obtain ⟨hq19, h⟩ := xj_rq_i h
        refine xg_ci (pc := 19) (av := [xj_rv v0]) (st := []) (cy := prog_11_method_19_code) (nLy := 1) (rety := (some .int)) (hsy := []) B dM_digits_19 (xj_go_v B dM_digits_19 vwM_118 rfl hq19) (xj_vw_c vwM_118) (xj_vw_i vwM_118) (by decide) (by decide) (by decide) rfl (fun r9 h9 => cM_look hl _ _ r9 h9) h (fun x3 A4 eA4 h => ?_)
        refine xg_bipush (pc := 22) (v := 57) B dM_digits_22 (by decide) ?_
        refine xg_icmp_gt (pc := 24) (tgt := 64) B dM_digits_24 (by decide) h (fun c24 h => ?_) (fun c24 h => ?_)
        · refine xg_sub (ls' := [(2, .int v2)]) [2] rfl ?_
          exact wM_digits_64 hl B v2 A4 h
        · refine xg_iload_n (pc := 27) (i := 2) B dM_digits_27 rfl rfl ?_
          refine xg_if_ge (pc := 28) (tgt := 35) B dM_digits_28 (by decide) h (fun c28 h => ?_) (fun c28 h => ?_)
          · refine xg_bipush (pc := 35) (v := 10) B dM_digits_35 (by decide) ?_
            refine xg_iload_n (pc := 37) (i := 2) B dM_digits_37 rfl rfl ?_
            refine xg_imul (pc := 38) B dM_digits_38 ?_
            refine xg_sub (ls' := [(0, xj_rv v0), (1, .int v1), (3, .int v3)]) [0, 1, 3] rfl ?_
            exact wM_digits_39 hl B (fM_digits_4 n) (wM_digits_4 hl B n) v0 v1 v3 ((10 : Int32) * v2) A4 h
          · refine xg_iconst (pc := 31) (v := 0) B dM_digits_31 (by decide) ?_
            refine xg_goto (pc := 32) (tgt := 39) B dM_digits_32 (by decide) ?_
            refine xg_sub (ls' := [(0, xj_rv v0), (1, .int v1), (3, .int v3)]) [0, 1, 3] rfl ?_
            exact wM_digits_39 hl B (fM_digits_4 n) (wM_digits_4 hl B n) v0 v1 v3 (0 : Int32) A4 h
theorem wM_digits {l : Launch} (hl : l.stackTraces = false) {z : xj_F} (B : xj_B l yM_digits prog_11_method_22_code 4 (some .int) [] 2 z) (v0 : xj_Rf) (v1 : Int32) (A : xj_H) (h : fM_digits v0 v1 A = some (xf_r z)) : xj_W l z 0 [(0, xj_rv v0), (1, .int v1)] [] A := by
  unfold fM_digits at h
  refine xg_iconst (pc := 0) (v := -1) B dM_digits_0 (by decide) ?_
  refine xg_istore_n (pc := 1) (i := 2) (ls' := [(2, .int (-1 : Int32)), (0, xj_rv v0), (1, .int v1)]) B dM_digits_1 rfl (by decide) ⟨xj_nq (a := 0) (i := 2) (by decide), fun _ => rfl, trivial⟩ rfl ?_
  refine xg_iconst (pc := 2) (v := 0) B dM_digits_2 (by decide) ?_
  refine xg_istore_n (pc := 3) (i := 3) (ls' := [(3, .int (0 : Int32)), (2, .int (-1 : Int32)), (0, xj_rv v0), (1, .int v1)]) B dM_digits_3 rfl (by decide) ⟨fun _ => rfl, xj_nq (a := 0) (i := 3) (by decide), xj_nq (a := 1) (i := 3) (by decide), trivial⟩ rfl ?_
  refine xg_sub (ls' := [(0, xj_rv v0), (1, .int v1), (2, .int (-1 : Int32)), (3, .int (0 : Int32))]) [2, 3, 1, 0] rfl ?_
  exact wM_digits_4 hl B xj_fu v0 v1 (-1 : Int32) (0 : Int32) A h
theorem cM_digits {l : Launch} (hl : l.stackTraces = false) (v0 : xj_Rf) (v1 : Int32) (A : xj_H) (r : xj_R) (h : fM_digits v0 v1 A = some r) : xj_M l yM_digits prog_11_method_22_code 4 (some .int) [] 2 [xj_rv v0, .int v1] A r := by
  refine xj_M.of hl (by decide +kernel) (by simp [lg_sl, xj_ic, xj_lc, xj_rv_cat]) (fun z B hA hr => ?_)
  subst hr
  have hw := wM_digits hl B v0 v1 A h
  simpa [lv_args, xj_ic, xj_lc, xj_rv_cat] using hw
/-! RecurrenceBookModel.readFrequency()Z -/
def fM_readFrequency_72 (s0 : Int32) (A : xj_H) : Option xj_R :=
  xj_rz s0 A
def fM_readFrequency_57 (v0 : xj_Rf) (s0 : Int32) (s1 : xj_Rf) (A : xj_H) : Option xj_R :=
  (xj_pv A s1 7 15 (.int s0)).bind fun A1 =>
  (xj_gi A1 v0 7 15).bind fun x2 =>
  if x2 ≤ 0 then
    fM_readFrequency_72 (0 : Int32) A1
  else
    fM_readFrequency_72 (1 : Int32) A1
def fM_readFrequency (v0 : xj_Rf) (A : xj_H) : Option xj_R :=
  xj_bl (xj_rq A v0 7 (fM_letters v0 (7 : Int32) A)) fun x1 A2 =>
  if ¬ (lg_cmp x1 (4236697 : Int64)) = 0 then
    if ¬ (lg_cmp x1 (777170329 : Int64)) = 0 then
      if ¬ (lg_cmp x1 (14477304217 : Int64)) = 0 then
        if ¬ (lg_cmp x1 (844155289 : Int64)) = 0 then
          fM_readFrequency_57 v0 (0 : Int32) v0 A2
        else
          fM_readFrequency_57 v0 (4 : Int32) v0 A2
      else
        fM_readFrequency_57 v0 (3 : Int32) v0 A2
    else
      fM_readFrequency_57 v0 (2 : Int32) v0 A2
  else
    fM_readFrequency_57 v0 (1 : Int32) v0 A2
theorem wM_readFrequency_72 {l : Launch} (hl : l.stackTraces = false) {z : xj_F} (B : xj_B l yM_readFrequency prog_11_method_23_code 3 (some .boolean) [] 3 z) (s0 : Int32) (A : xj_H) (h : fM_readFrequency_72 s0 A = some (xf_r z)) : xj_W l z 72 [] [.int s0] A := by
  unfold fM_readFrequency_72 at h
  exact xg_zret B dM_readFrequency_72 h
theorem wM_readFrequency_57 {l : Launch} (hl : l.stackTraces = false) {z : xj_F} (B : xj_B l yM_readFrequency prog_11_method_23_code 3 (some .boolean) [] 3 z) (v0 : xj_Rf) (s0 : Int32) (s1 : xj_Rf) (A : xj_H) (h : fM_readFrequency_57 v0 s0 s1 A = some (xf_r z)) : xj_W l z 57 [(0, xj_rv v0)] [.int s0, xj_rv s1] A := by
  unfold fM_readFrequency_57 at h
  refine xg_puti (pc := 57) B dM_readFrequency_57 (fpM_138 _) h (fun A1 eA1 h => ?_)
  refine xg_aload_n (pc := 60) (i := 0) (r := v0) B dM_readFrequency_60 rfl rfl ?_
  refine xg_geti (pc := 61) B dM_readFrequency_61 flM_138 h (fun x2 ex2 h => ?_)
  refine xg_if_le (pc := 64) (tgt := 71) B dM_readFrequency_64 (by decide) h (fun c64 h => ?_) (fun c64 h => ?_)
  · refine xg_iconst (pc := 71) (v := 0) B dM_readFrequency_71 (by decide) ?_
    refine xg_sub (ls' := []) [] rfl ?_
    exact wM_readFrequency_72 hl B (0 : Int32) A1 h
  · refine xg_iconst (pc := 67) (v := 1) B dM_readFrequency_67 (by decide) ?_
    refine xg_goto (pc := 68) (tgt := 72) B dM_readFrequency_68 (by decide) ?_
    refine xg_sub (ls' := []) [] rfl ?_
    exact wM_readFrequency_72 hl B (1 : Int32) A1 h
theorem wM_readFrequency {l : Launch} (hl : l.stackTraces = false) {z : xj_F} (B : xj_B l yM_readFrequency prog_11_method_23_code 3 (some .boolean) [] 3 z) (v0 : xj_Rf) (A : xj_H) (h : fM_readFrequency v0 A = some (xf_r z)) : xj_W l z 0 [(0, xj_rv v0)] [] A := by
  unfold fM_readFrequency at h
  refine xg_aload_n (pc := 0) (i := 0) (r := v0) B dM_readFrequency_0 rfl rfl ?_
  refine xg_bipush (pc := 1) (v := 7) B dM_readFrequency_1 (by decide) ?_
  obtain ⟨hq3, h⟩ := xj_rq_l h
  refine xg_cl (pc := 3) (av := [xj_rv v0, .int (7 : Int32)]) (st := []) (cy := prog_11_method_21_code) (nLy := 5) (rety := (some .long)) (hsy := []) B dM_readFrequency_3 (xj_go_v B dM_readFrequency_3 vwM_126 rfl hq3) (xj_vw_c vwM_126) (xj_vw_i vwM_126) (by decide) (by decide) (by decide) rfl (fun r9 h9 => cM_letters hl _ _ _ r9 h9) h (fun x1 A2 eA2 h => ?_)
  refine xg_lstore_n (pc := 6) (i := 1) (ls' := [(1, .long x1), (0, xj_rv v0)]) B dM_readFrequency_6 rfl (by decide) ⟨fun _ => xj_rv_cat v0, trivial⟩ rfl ?_
  refine xg_aload_n (pc := 7) (i := 0) (r := v0) B dM_readFrequency_7 rfl rfl ?_
  refine xg_lload_n (pc := 8) (i := 1) B dM_readFrequency_8 rfl rfl ?_
  refine xg_ldc2 (pc := 9) (v := 4236697) B dM_readFrequency_9 kM_130 ?_
  refine xg_lcmp (pc := 12) B dM_readFrequency_12 ?_
  refine xg_if_ne (pc := 13) (tgt := 20) B dM_readFrequency_13 (by decide) h (fun c13 h => ?_) (fun c13 h => ?_)
  · refine xg_lload_n (pc := 20) (i := 1) B dM_readFrequency_20 rfl rfl ?_
    refine xg_ldc2 (pc := 21) (v := 777170329) B dM_readFrequency_21 kM_132 ?_
    refine xg_lcmp (pc := 24) B dM_readFrequency_24 ?_
    refine xg_if_ne (pc := 25) (tgt := 32) B dM_readFrequency_25 (by decide) h (fun c25 h => ?_) (fun c25 h => ?_)
    · refine xg_lload_n (pc := 32) (i := 1) B dM_readFrequency_32 rfl rfl ?_
      refine xg_ldc2 (pc := 33) (v := 14477304217) B dM_readFrequency_33 kM_134 ?_
      refine xg_lcmp (pc := 36) B dM_readFrequency_36 ?_
      refine xg_if_ne (pc := 37) (tgt := 44) B dM_readFrequency_37 (by decide) h (fun c37 h => ?_) (fun c37 h => ?_)
      · refine xg_lload_n (pc := 44) (i := 1) B dM_readFrequency_44 rfl rfl ?_
        refine xg_ldc2 (pc := 45) (v := 844155289) B dM_readFrequency_45 kM_136 ?_
        refine xg_lcmp (pc := 48) B dM_readFrequency_48 ?_
        refine xg_if_ne (pc := 49) (tgt := 56) B dM_readFrequency_49 (by decide) h (fun c49 h => ?_) (fun c49 h => ?_)
        · refine xg_iconst (pc := 56) (v := 0) B dM_readFrequency_56 (by decide) ?_
          refine xg_sub (ls' := [(0, xj_rv v0)]) [1] rfl ?_
          exact wM_readFrequency_57 hl B v0 (0 : Int32) v0 A2 h
        · refine xg_iconst (pc := 52) (v := 4) B dM_readFrequency_52 (by decide) ?_
          refine xg_goto (pc := 53) (tgt := 57) B dM_readFrequency_53 (by decide) ?_
          refine xg_sub (ls' := [(0, xj_rv v0)]) [1] rfl ?_
          exact wM_readFrequency_57 hl B v0 (4 : Int32) v0 A2 h
      · refine xg_iconst (pc := 40) (v := 3) B dM_readFrequency_40 (by decide) ?_
        refine xg_goto (pc := 41) (tgt := 57) B dM_readFrequency_41 (by decide) ?_
        refine xg_sub (ls' := [(0, xj_rv v0)]) [1] rfl ?_
        exact wM_readFrequency_57 hl B v0 (3 : Int32) v0 A2 h
    · refine xg_iconst (pc := 28) (v := 2) B dM_readFrequency_28 (by decide) ?_
      refine xg_goto (pc := 29) (tgt := 57) B dM_readFrequency_29 (by decide) ?_
      refine xg_sub (ls' := [(0, xj_rv v0)]) [1] rfl ?_
      exact wM_readFrequency_57 hl B v0 (2 : Int32) v0 A2 h
  · refine xg_iconst (pc := 16) (v := 1) B dM_readFrequency_16 (by decide) ?_
    refine xg_goto (pc := 17) (tgt := 57) B dM_readFrequency_17 (by decide) ?_
    refine xg_sub (ls' := [(0, xj_rv v0)]) [1] rfl ?_
    exact wM_readFrequency_57 hl B v0 (1 : Int32) v0 A2 h
theorem cM_readFrequency {l : Launch} (hl : l.stackTraces = false) (v0 : xj_Rf) (A : xj_H) (r : xj_R) (h : fM_readFrequency v0 A = some r) : xj_M l yM_readFrequency prog_11_method_23_code 3 (some .boolean) [] 3 [xj_rv v0] A r := by
  refine xj_M.of hl (by decide +kernel) (by simp [lg_sl, xj_ic, xj_lc, xj_rv_cat]) (fun z B hA hr => ?_)
  subst hr
  have hw := wM_readFrequency hl B v0 A h
  simpa [lv_args, xj_ic, xj_lc, xj_rv_cat] using hw

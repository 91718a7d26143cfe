/-! RecurrenceBook$RuleReader.take(C)Z -/
def fQ_take_24 (A : xj_H) : Option xj_R :=
  xj_rz (0 : Int32) A
def fQ_take (v0 : xj_Rf) (v1 : Int32) (A : xj_H) : Option xj_R :=
  (xj_gi A v0 5 2).bind fun x1 =>
  (xj_gi A v0 5 1).bind fun x2 =>
  if x2 ≤ x1 then
    fQ_take_24  A
  else
    (xj_gr A v0 5 0).bind fun x3 =>
    (xj_gi A v0 5 2).bind fun x4 =>
    (xj_ai A x3 1 x4).bind fun x5 =>
    if x5 = v1 then
      (xj_gi A v0 5 2).bind fun x6 =>
      (xj_pv A v0 5 2 (.int (x6 + (1 : Int32)))).bind fun A7 =>
      xj_rz (1 : Int32) A7
    else
      fQ_take_24  A
theorem wQ_take_24 {l : Launch} (hl : l.stackTraces = false) {z : xj_F} (B : xj_B l yQ_take prog_6_method_15_code 2 (some .boolean) [] 1 z) (A : xj_H) (h : fQ_take_24  A = some (xf_r z)) : xj_W l z 24 [] [] A := by
  unfold fQ_take_24 at h
  refine xg_iconst (pc := 24) (v := 0) B dQ_take_24 (by decide) ?_
  exact xg_zret B dQ_take_25 h
theorem wQ_take {l : Launch} (hl : l.stackTraces = false) {z : xj_F} (B : xj_B l yQ_take prog_6_method_15_code 2 (some .boolean) [] 1 z) (v0 : xj_Rf) (v1 : Int32) (A : xj_H) (h : fQ_take v0 v1 A = some (xf_r z)) : xj_W l z 0 [(0, xj_rv v0), (1, .int v1)] [] A := by
  unfold fQ_take at h
  refine xg_aload_n (pc := 0) (i := 0) (r := v0) B dQ_take_0 rfl rfl ?_
  refine xg_geti (pc := 1) B dQ_take_1 flQ_19 h (fun x1 ex1 h => ?_)
  refine xg_aload_n (pc := 4) (i := 0) (r := v0) B dQ_take_4 rfl rfl ?_
  refine xg_geti (pc := 5) B dQ_take_5 flQ_15 h (fun x2 ex2 h => ?_)
  refine xg_icmp_ge (pc := 8) (tgt := 24) B dQ_take_8 (by decide) h (fun c8 h => ?_) (fun c8 h => ?_)
  · refine xg_sub (ls' := []) [] rfl ?_
    exact wQ_take_24 hl B  A h
  · refine xg_aload_n (pc := 11) (i := 0) (r := v0) B dQ_take_11 rfl rfl ?_
    refine xg_getr (pc := 12) B dQ_take_12 flQ_9 h (fun x3 ex3 h => ?_)
    refine xg_aload_n (pc := 15) (i := 0) (r := v0) B dQ_take_15 rfl rfl ?_
    refine xg_geti (pc := 16) B dQ_take_16 flQ_19 h (fun x4 ex4 h => ?_)
    refine xg_caload (pc := 19) B dQ_take_19 h (fun x5 ex5 h => ?_)
    refine xg_iload_n (pc := 20) (i := 1) B dQ_take_20 rfl rfl ?_
    refine xg_icmp_eq (pc := 21) (tgt := 26) B dQ_take_21 (by decide) h (fun c21 h => ?_) (fun c21 h => ?_)
    · refine xg_aload_n (pc := 26) (i := 0) (r := v0) B dQ_take_26 rfl rfl ?_
      refine xg_dup (pc := 27) B dQ_take_27 (xj_rv_cat v0) ?_
      refine xg_geti (pc := 28) B dQ_take_28 flQ_19 h (fun x6 ex6 h => ?_)
      refine xg_iconst (pc := 31) (v := 1) B dQ_take_31 (by decide) ?_
      refine xg_iadd (pc := 32) B dQ_take_32 ?_
      refine xg_puti (pc := 33) B dQ_take_33 (fpQ_19 _) h (fun A7 eA7 h => ?_)
      refine xg_iconst (pc := 36) (v := 1) B dQ_take_36 (by decide) ?_
      exact xg_zret B dQ_take_37 h
    · refine xg_sub (ls' := []) [] rfl ?_
      exact wQ_take_24 hl B  A h
theorem cQ_take {l : Launch} (hl : l.stackTraces = false) (v0 : xj_Rf) (v1 : Int32) (A : xj_H) (r : xj_R) (h : fQ_take v0 v1 A = some r) : xj_M l yQ_take prog_6_method_15_code 2 (some .boolean) [] 1 [xj_rv v0, .int v1] A r := by
  refine xj_M.of hl (by decide +kernel) (by simp [lg_sl, xj_ic, xj_lc, xj_rv_cat]) (fun z B hA hr => ?_)
  subst hr
  have hw := wQ_take hl B v0 v1 A h
  simpa [lv_args, xj_ic, xj_lc, xj_rv_cat] using hw
/-! RecurrenceBook$RuleReader.takeWeekday()I -/
def fQ_takeWeekday_89 (k17 : xj_Rf → Int32 → xj_H → Option xj_R) (v0 : xj_Rf) (v1 : Int32) (A : xj_H) : Option xj_R :=
  k17 v0 (v1 + 1) A
def fQ_takeWeekday_48 (k17 : xj_Rf → Int32 → xj_H → Option xj_R) (v0 : xj_Rf) (v1 : Int32) (s0 : Int32) (A : xj_H) : Option xj_R :=
  if s0 = 0 then
    fQ_takeWeekday_89 k17 v0 v1 A
  else
    (xj_gr A v0 5 0).bind fun x1 =>
    (xj_gi A v0 5 2).bind fun x2 =>
    (xj_ai A x1 1 (x2 + (1 : Int32))).bind fun x3 =>
    xj_bi (xj_zq (some (.inr 114)) (fK_charAt (some (.inr 114)) (((2 : Int32) * v1) + (1 : Int32)) A)) fun x4 A5 =>
    if ¬ x3 = x4 then
      fQ_takeWeekday_89 k17 v0 v1 A5
    else
      (xj_gi A5 v0 5 2).bind fun x6 =>
      (xj_pv A5 v0 5 2 (.int (x6 + (2 : Int32)))).bind fun A7 =>
      some (.inl (some (.int v1)), A7)
def fQ_takeWeekday_17 : Nat → xj_Rf → Int32 → xj_H → Option xj_R
  | 0, _, _, _ => none
  | n + 1, v0, v1, A =>
    if (7 : Int32) ≤ v1 then
      some (.inl (some (.int (-1 : Int32))), A)
    else
      (xj_gr A v0 5 0).bind fun x1 =>
      (xj_gi A v0 5 2).bind fun x2 =>
      (xj_ai A x1 1 x2).bind fun x3 =>
      xj_bi (xj_zq (some (.inr 114)) (fK_charAt (some (.inr 114)) ((2 : Int32) * v1) A)) fun x4 A5 =>
      if ¬ x3 = x4 then
        fQ_takeWeekday_48 (fQ_takeWeekday_17 n) v0 v1 (0 : Int32) A5
      else
        fQ_takeWeekday_48 (fQ_takeWeekday_17 n) v0 v1 (1 : Int32) A5
def fQ_takeWeekday (v0 : xj_Rf) (A : xj_H) : Option xj_R :=
  (xj_gi A v0 5 2).bind fun x1 =>
  (xj_gi A v0 5 1).bind fun x2 =>
  if (x1 + (1 : Int32)) < x2 then
    fQ_takeWeekday_17 xj_fu v0 (0 : Int32) A
  else
    some (.inl (some (.int (-1 : Int32))), A)
theorem wQ_takeWeekday_89 {l : Launch} (hl : l.stackTraces = false) {z : xj_F} (B : xj_B l yQ_takeWeekday prog_6_method_12_code 3 (some .int) [] 5 z) (k17 : xj_Rf → Int32 → xj_H → Option xj_R) (hk17 : ∀ (v0 : xj_Rf) (v1 : Int32) (A : xj_H), k17 v0 v1 A = some (xf_r z) → xj_W l z 17 [(0, xj_rv v0), (1, .int v1)] [] A) (v0 : xj_Rf) (v1 : Int32) (A : xj_H) (h : fQ_takeWeekday_89 k17 v0 v1 A = some (xf_r z)) : xj_W l z 89 [(0, xj_rv v0), (1, .int v1)] [] A := by
  unfold fQ_takeWeekday_89 at h
  refine xg_iinc (pc := 89) (i := 1) (v := (v1 + 1)) (ls' := [(1, .int (v1 + 1)), (0, xj_rv v0)]) B dQ_takeWeekday_89 rfl (xj_inc_1 _) (by decide) ⟨fun _ => xj_rv_cat v0, xj_nq (a := 1) (i := 1) (by decide), trivial⟩ rfl ?_
  refine xg_goto (pc := 92) (tgt := 17) B dQ_takeWeekday_92 (by decide) ?_
  refine xg_sub (ls' := [(0, xj_rv v0), (1, .int (v1 + 1))]) [1, 0] rfl ?_
  exact hk17 v0 (v1 + 1) A h
theorem wQ_takeWeekday_48 {l : Launch} (hl : l.stackTraces = false) {z : xj_F} (B : xj_B l yQ_takeWeekday prog_6_method_12_code 3 (some .int) [] 5 z) (k17 : xj_Rf → Int32 → xj_H → Option xj_R) (hk17 : ∀ (v0 : xj_Rf) (v1 : Int32) (A : xj_H), k17 v0 v1 A = some (xf_r z) → xj_W l z 17 [(0, xj_rv v0), (1, .int v1)] [] A) (v0 : xj_Rf) (v1 : Int32) (s0 : Int32) (A : xj_H) (h : fQ_takeWeekday_48 k17 v0 v1 s0 A = some (xf_r z)) : xj_W l z 48 [(0, xj_rv v0), (1, .int v1)] [.int s0] A := by
  unfold fQ_takeWeekday_48 at h
  refine xg_istore_n (pc := 48) (i := 2) (ls' := [(2, .int s0), (0, xj_rv v0), (1, .int v1)]) B dQ_takeWeekday_48 rfl (by decide) ⟨xj_nq (a := 0) (i := 2) (by decide), fun _ => rfl, trivial⟩ rfl ?_
  refine xg_iload_n (pc := 49) (i := 2) B dQ_takeWeekday_49 rfl rfl ?_
  refine xg_if_eq (pc := 50) (tgt := 89) B dQ_takeWeekday_50 (by decide) h (fun c50 h => ?_) (fun c50 h => ?_)
  · refine xg_sub (ls' := [(0, xj_rv v0), (1, .int v1)]) [1, 2] rfl ?_
    exact wQ_takeWeekday_89 hl B k17 hk17 v0 v1 A h
  · refine xg_aload_n (pc := 53) (i := 0) (r := v0) B dQ_takeWeekday_53 rfl rfl ?_
    refine xg_getr (pc := 54) B dQ_takeWeekday_54 flQ_9 h (fun x1 ex1 h => ?_)
    refine xg_aload_n (pc := 57) (i := 0) (r := v0) B dQ_takeWeekday_57 rfl rfl ?_
    refine xg_geti (pc := 58) B dQ_takeWeekday_58 flQ_19 h (fun x2 ex2 h => ?_)
    refine xg_iconst (pc := 61) (v := 1) B dQ_takeWeekday_61 (by decide) ?_
    refine xg_iadd (pc := 62) B dQ_takeWeekday_62 ?_
    refine xg_caload (pc := 63) B dQ_takeWeekday_63 h (fun x3 ex3 h => ?_)
    refine xg_ldcS (pc := 64) (i := 14) B dQ_takeWeekday_64 ⟨_, List.mem_of_getElem? (i := 14) rfl⟩ ?_
    refine xg_iconst (pc := 66) (v := 2) B dQ_takeWeekday_66 (by decide) ?_
    refine xg_iload_n (pc := 67) (i := 1) B dQ_takeWeekday_67 rfl rfl ?_
    refine xg_imul (pc := 68) B dQ_takeWeekday_68 ?_
    refine xg_iconst (pc := 69) (v := 1) B dQ_takeWeekday_69 (by decide) ?_
    refine xg_iadd (pc := 70) B dQ_takeWeekday_70 ?_
    obtain ⟨hq71, h⟩ := xj_zq_i h
    refine xg_ci (pc := 71) (av := [xj_rv (some (.inr 114)), .int (((2 : Int32) * v1) + (1 : Int32))]) (st := [.int x3]) (cy := prog_18_method_56_code) (nLy := 2) (rety := (some .char)) (hsy := []) B dQ_takeWeekday_71 (xj_go_z B dQ_takeWeekday_71 zwQ_154 rfl hq71) zwQ_154.2.2.2.1 zwQ_154.2.2.2.2.1 (by decide) (by decide) (by simp [xj_ic, xj_lc, xj_rv_cat]) rfl (fun r9 h9 => cK_charAt hl _ _ _ r9 h9) h (fun x4 A5 eA5 h => ?_)
    refine xg_icmp_ne (pc := 74) (tgt := 89) B dQ_takeWeekday_74 (by decide) h (fun c74 h => ?_) (fun c74 h => ?_)
    · refine xg_sub (ls' := [(0, xj_rv v0), (1, .int v1)]) [1, 2] rfl ?_
      exact wQ_takeWeekday_89 hl B k17 hk17 v0 v1 A5 h
    · refine xg_aload_n (pc := 77) (i := 0) (r := v0) B dQ_takeWeekday_77 rfl rfl ?_
      refine xg_dup (pc := 78) B dQ_takeWeekday_78 (xj_rv_cat v0) ?_
      refine xg_geti (pc := 79) B dQ_takeWeekday_79 flQ_19 h (fun x6 ex6 h => ?_)
      refine xg_iconst (pc := 82) (v := 2) B dQ_takeWeekday_82 (by decide) ?_
      refine xg_iadd (pc := 83) B dQ_takeWeekday_83 ?_
      refine xg_puti (pc := 84) B dQ_takeWeekday_84 (fpQ_19 _) h (fun A7 eA7 h => ?_)
      refine xg_iload_n (pc := 87) (i := 1) B dQ_takeWeekday_87 rfl rfl ?_
      exact xg_iret B dQ_takeWeekday_88 h
theorem wQ_takeWeekday_17 {l : Launch} (hl : l.stackTraces = false) {z : xj_F} (B : xj_B l yQ_takeWeekday prog_6_method_12_code 3 (some .int) [] 5 z) : ∀ (n : Nat) (v0 : xj_Rf) (v1 : Int32) (A : xj_H), fQ_takeWeekday_17 n v0 v1 A = some (xf_r z) → xj_W l z 17 [(0, xj_rv v0), (1, .int v1)] [] A
  | 0, _, _, _, h => by simp [fQ_takeWeekday_17] at h
  | n + 1, v0, v1, A, h => by
    rw [fQ_takeWeekday_17] at h
    refine xg_iload_n (pc := 17) (i := 1) B dQ_takeWeekday_17 rfl rfl ?_
    refine xg_bipush (pc := 18) (v := 7) B dQ_takeWeekday_18 (by decide) ?_
    refine xg_icmp_ge (pc := 20) (tgt := 95) B dQ_takeWeekday_20 (by decide) h (fun c20 h => ?_) (fun c20 h => ?_)
    · refine xg_iconst (pc := 95) (v := -1) B dQ_takeWeekday_95 (by decide) ?_
      exact xg_iret B dQ_takeWeekday_96 h
    · refine xg_aload_n (pc := 23) (i := 0) (r := v0) B dQ_takeWeekday_23 rfl rfl ?_
      refine xg_getr (pc := 24) B dQ_takeWeekday_24 flQ_9 h (fun x1 ex1 h => ?_)
      refine xg_aload_n (pc := 27) (i := 0) (r := v0) B dQ_takeWeekday_27 rfl rfl ?_
      refine xg_geti (pc := 28) B dQ_takeWeekday_28 flQ_19 h (fun x2 ex2 h => ?_)
      refine xg_caload (pc := 31) B dQ_takeWeekday_31 h (fun x3 ex3 h => ?_)
      refine xg_ldcS (pc := 32) (i := 14) B dQ_takeWeekday_32 ⟨_, List.mem_of_getElem? (i := 14) rfl⟩ ?_
      refine xg_iconst (pc := 34) (v := 2) B dQ_takeWeekday_34 (by decide) ?_
      refine xg_iload_n (pc := 35) (i := 1) B dQ_takeWeekday_35 rfl rfl ?_
      refine xg_imul (pc := 36) B dQ_takeWeekday_36 ?_
      obtain ⟨hq37, h⟩ := xj_zq_i h
      refine xg_ci (pc := 37) (av := [xj_rv (some (.inr 114)), .int ((2 : Int32) * v1)]) (st := [.int x3]) (cy := prog_18_method_56_code) (nLy := 2) (rety := (some .char)) (hsy := []) B dQ_takeWeekday_37 (xj_go_z B dQ_takeWeekday_37 zwQ_154 rfl hq37) zwQ_154.2.2.2.1 zwQ_154.2.2.2.2.1 (by decide) (by decide) (by simp [xj_ic, xj_lc, xj_rv_cat]) rfl (fun r9 h9 => cK_charAt hl _ _ _ r9 h9) h (fun x4 A5 eA5 h => ?_)
      refine xg_icmp_ne (pc := 40) (tgt := 47) B dQ_takeWeekday_40 (by decide) h (fun c40 h => ?_) (fun c40 h => ?_)
      · refine xg_iconst (pc := 47) (v := 0) B dQ_takeWeekday_47 (by decide) ?_
        exact wQ_takeWeekday_48 hl B (fQ_takeWeekday_17 n) (wQ_takeWeekday_17 hl B n) v0 v1 (0 : Int32) A5 h
      · refine xg_iconst (pc := 43) (v := 1) B dQ_takeWeekday_43 (by decide) ?_
        refine xg_goto (pc := 44) (tgt := 48) B dQ_takeWeekday_44 (by decide) ?_
        exact wQ_takeWeekday_48 hl B (fQ_takeWeekday_17 n) (wQ_takeWeekday_17 hl B n) v0 v1 (1 : Int32) A5 h
theorem wQ_takeWeekday {l : Launch} (hl : l.stackTraces = false) {z : xj_F} (B : xj_B l yQ_takeWeekday prog_6_method_12_code 3 (some .int) [] 5 z) (v0 : xj_Rf) (A : xj_H) (h : fQ_takeWeekday v0 A = some (xf_r z)) : xj_W l z 0 [(0, xj_rv v0)] [] A := by
  unfold fQ_takeWeekday at h
  refine xg_aload_n (pc := 0) (i := 0) (r := v0) B dQ_takeWeekday_0 rfl rfl ?_
  refine xg_geti (pc := 1) B dQ_takeWeekday_1 flQ_19 h (fun x1 ex1 h => ?_)
  refine xg_iconst (pc := 4) (v := 1) B dQ_takeWeekday_4 (by decide) ?_
  refine xg_iadd (pc := 5) B dQ_takeWeekday_5 ?_
  refine xg_aload_n (pc := 6) (i := 0) (r := v0) B dQ_takeWeekday_6 rfl rfl ?_
  refine xg_geti (pc := 7) B dQ_takeWeekday_7 flQ_15 h (fun x2 ex2 h => ?_)
  refine xg_icmp_lt (pc := 10) (tgt := 15) B dQ_takeWeekday_10 (by decide) h (fun c10 h => ?_) (fun c10 h => ?_)
  · refine xg_iconst (pc := 15) (v := 0) B dQ_takeWeekday_15 (by decide) ?_
    refine xg_istore_n (pc := 16) (i := 1) (ls' := [(1, .int (0 : Int32)), (0, xj_rv v0)]) B dQ_takeWeekday_16 rfl (by decide) ⟨fun _ => xj_rv_cat v0, trivial⟩ rfl ?_
    refine xg_sub (ls' := [(0, xj_rv v0), (1, .int (0 : Int32))]) [1, 0] rfl ?_
    exact wQ_takeWeekday_17 hl B xj_fu v0 (0 : Int32) A h
  · refine xg_iconst (pc := 13) (v := -1) B dQ_takeWeekday_13 (by decide) ?_
    exact xg_iret B dQ_takeWeekday_14 h
theorem cQ_takeWeekday {l : Launch} (hl : l.stackTraces = false) (v0 : xj_Rf) (A : xj_H) (r : xj_R) (h : fQ_takeWeekday v0 A = some r) : xj_M l yQ_takeWeekday prog_6_method_12_code 3 (some .int) [] 5 [xj_rv v0] A r := by
  refine xj_M.of hl (by decide +kernel) (by simp [lg_sl, xj_ic, xj_lc, xj_rv_cat]) (fun z B hA hr => ?_)
  subst hr
  have hw := wQ_takeWeekday hl B v0 A h
  simpa [lv_args, xj_ic, xj_lc, xj_rv_cat] using hw
/-! RecurrenceBook$Rule.nthBit(II)J -/
def fR_nthBit (v0 : Int32) (v1 : Int32) (A : xj_H) : Option xj_R :=
  some (.inl (some (.long ((1 : Int64) <<< (Int32.toInt64 (((7 : Int32) * v1) + v0) &&& 63)))), A)
theorem wR_nthBit {l : Launch} (hl : l.stackTraces = false) {z : xj_F} (B : xj_B l yR_nthBit prog_5_method_4_code 2 (some .long) [] 1 z) (v0 : Int32) (v1 : Int32) (A : xj_H) (h : fR_nthBit v0 v1 A = some (xf_r z)) : xj_W l z 0 [(0, .int v0), (1, .int v1)] [] A := by
  unfold fR_nthBit at h
  refine xg_lconst (pc := 0) (v := 1) B dR_nthBit_0 (by decide) ?_
  refine xg_bipush (pc := 1) (v := 7) B dR_nthBit_1 (by decide) ?_
  refine xg_iload_n (pc := 3) (i := 1) B dR_nthBit_3 rfl rfl ?_
  refine xg_imul (pc := 4) B dR_nthBit_4 ?_
  refine xg_iload_n (pc := 5) (i := 0) B dR_nthBit_5 rfl rfl ?_
  refine xg_iadd (pc := 6) B dR_nthBit_6 ?_
  refine xg_lshl (pc := 7) B dR_nthBit_7 ?_
  exact xg_lret B dR_nthBit_8 h
theorem cR_nthBit {l : Launch} (hl : l.stackTraces = false) (v0 : Int32) (v1 : Int32) (A : xj_H) (r : xj_R) (h : fR_nthBit v0 v1 A = some r) : xj_M l yR_nthBit prog_5_method_4_code 2 (some .long) [] 1 [.int v0, .int v1] A r := by
  refine xj_M.of hl (by decide +kernel) (by simp [lg_sl, xj_ic, xj_lc, xj_rv_cat]) (fun z B hA hr => ?_)
  subst hr
  have hw := wR_nthBit hl B v0 v1 A h
  simpa [lv_args, xj_ic, xj_lc, xj_rv_cat] using hw
/-! RecurrenceBook$Rule.addWeekday(IIZ)V -/
def fR_addWeekday_54 (A : xj_H) : Option xj_R :=
  some (.inl none, A)
def fR_addWeekday (v0 : xj_Rf) (v1 : Int32) (v2 : Int32) (v3 : Int32) (A : xj_H) : Option xj_R :=
  if ¬ v2 = 0 then
    if v3 = 0 then
      (xj_gl A v0 4 9).bind fun x1 =>
      xj_bl (fR_nthBit v1 v2 A) fun x2 A3 =>
      (xj_pv A3 v0 4 9 (.long (x1 ||| x2))).bind fun A4 =>
      fR_addWeekday_54  A4
    else
      (xj_gl A v0 4 10).bind fun x5 =>
      xj_bl (fR_nthBit v1 v2 A) fun x6 A7 =>
      (xj_pv A7 v0 4 10 (.long (x5 ||| x6))).bind fun A8 =>
      fR_addWeekday_54  A8
  else
    (xj_gi A v0 4 8).bind fun x9 =>
    (xj_pv A v0 4 8 (.int (x9 ||| ((1 : Int32) <<< (v1 &&& 31))))).bind fun A10 =>
    fR_addWeekday_54  A10
theorem wR_addWeekday_54 {l : Launch} (hl : l.stackTraces = false) {z : xj_F} (B : xj_B l yR_addWeekday prog_5_method_3_code 4 none [] 2 z) (A : xj_H) (h : fR_addWeekday_54  A = some (xf_r z)) : xj_W l z 54 [] [] A := by
  unfold fR_addWeekday_54 at h
  exact xg_vret B dR_addWeekday_54 h
theorem wR_addWeekday {l : Launch} (hl : l.stackTraces = false) {z : xj_F} (B : xj_B l yR_addWeekday prog_5_method_3_code 4 none [] 2 z) (v0 : xj_Rf) (v1 : Int32) (v2 : Int32) (v3 : Int32) (A : xj_H) (h : fR_addWeekday v0 v1 v2 v3 A = some (xf_r z)) : xj_W l z 0 [(0, xj_rv v0), (1, .int v1), (2, .int v2), (3, .int v3)] [] A := by
  unfold fR_addWeekday at h
  refine xg_iload_n (pc := 0) (i := 2) B dR_addWeekday_0 rfl rfl ?_
  refine xg_if_ne (pc := 1) (tgt := 19) B dR_addWeekday_1 (by decide) h (fun c1 h => ?_) (fun c1 h => ?_)
  · refine xg_iload_n (pc := 19) (i := 3) B dR_addWeekday_19 rfl rfl ?_
    refine xg_if_eq (pc := 20) (tgt := 40) B dR_addWeekday_20 (by decide) h (fun c20 h => ?_) (fun c20 h => ?_)
    · refine xg_aload_n (pc := 40) (i := 0) (r := v0) B dR_addWeekday_40 rfl rfl ?_
      refine xg_dup (pc := 41) B dR_addWeekday_41 (xj_rv_cat v0) ?_
      refine xg_getl (pc := 42) B dR_addWeekday_42 flR_37 h (fun x1 ex1 h => ?_)
      refine xg_iload_n (pc := 45) (i := 1) B dR_addWeekday_45 rfl rfl ?_
      refine xg_iload_n (pc := 46) (i := 2) B dR_addWeekday_46 rfl rfl ?_
      refine xg_cl (pc := 47) (av := [.int v1, .int v2]) (st := [.long x1, xj_rv v0]) (cy := prog_5_method_4_code) (nLy := 2) (rety := (some .long)) (hsy := []) B dR_addWeekday_47 (xj_go_s B dR_addWeekday_47 swR_33 rfl) swR_33.2.2.1 swR_33.2.2.2.1 (by decide) (by decide) (by simp [xj_ic, xj_lc, xj_rv_cat]) rfl (fun r9 h9 => cR_nthBit hl _ _ _ r9 h9) h (fun x2 A3 eA3 h => ?_)
      refine xg_lor (pc := 50) B dR_addWeekday_50 ?_
      refine xg_putl (pc := 51) B dR_addWeekday_51 (fpR_37 _) h (fun A4 eA4 h => ?_)
      refine xg_sub (ls' := []) [] rfl ?_
      exact wR_addWeekday_54 hl B  A4 h
    · refine xg_aload_n (pc := 23) (i := 0) (r := v0) B dR_addWeekday_23 rfl rfl ?_
      refine xg_dup (pc := 24) B dR_addWeekday_24 (xj_rv_cat v0) ?_
      refine xg_getl (pc := 25) B dR_addWeekday_25 flR_29 h (fun x5 ex5 h => ?_)
      refine xg_iload_n (pc := 28) (i := 1) B dR_addWeekday_28 rfl rfl ?_
      refine xg_iload_n (pc := 29) (i := 2) B dR_addWeekday_29 rfl rfl ?_
      refine xg_cl (pc := 30) (av := [.int v1, .int v2]) (st := [.long x5, xj_rv v0]) (cy := prog_5_method_4_code) (nLy := 2) (rety := (some .long)) (hsy := []) B dR_addWeekday_30 (xj_go_s B dR_addWeekday_30 swR_33 rfl) swR_33.2.2.1 swR_33.2.2.2.1 (by decide) (by decide) (by simp [xj_ic, xj_lc, xj_rv_cat]) rfl (fun r9 h9 => cR_nthBit hl _ _ _ r9 h9) h (fun x6 A7 eA7 h => ?_)
      refine xg_lor (pc := 33) B dR_addWeekday_33 ?_
      refine xg_putl (pc := 34) B dR_addWeekday_34 (fpR_29 _) h (fun A8 eA8 h => ?_)
      refine xg_goto (pc := 37) (tgt := 54) B dR_addWeekday_37 (by decide) ?_
      refine xg_sub (ls' := []) [] rfl ?_
      exact wR_addWeekday_54 hl B  A8 h
  · refine xg_aload_n (pc := 4) (i := 0) (r := v0) B dR_addWeekday_4 rfl rfl ?_
    refine xg_dup (pc := 5) B dR_addWeekday_5 (xj_rv_cat v0) ?_
    refine xg_geti (pc := 6) B dR_addWeekday_6 flR_26 h (fun x9 ex9 h => ?_)
    refine xg_iconst (pc := 9) (v := 1) B dR_addWeekday_9 (by decide) ?_
    refine xg_iload_n (pc := 10) (i := 1) B dR_addWeekday_10 rfl rfl ?_
    refine xg_ishl (pc := 11) B dR_addWeekday_11 ?_
    refine xg_ior (pc := 12) B dR_addWeekday_12 ?_
    refine xg_puti (pc := 13) B dR_addWeekday_13 (fpR_26 _) h (fun A10 eA10 h => ?_)
    refine xg_goto (pc := 16) (tgt := 54) B dR_addWeekday_16 (by decide) ?_
    refine xg_sub (ls' := []) [] rfl ?_
    exact wR_addWeekday_54 hl B  A10 h
theorem cR_addWeekday {l : Launch} (hl : l.stackTraces = false) (v0 : xj_Rf) (v1 : Int32) (v2 : Int32) (v3 : Int32) (A : xj_H) (r : xj_R) (h : fR_addWeekday v0 v1 v2 v3 A = some r) : xj_M l yR_addWeekday prog_5_method_3_code 4 none [] 2 [xj_rv v0, .int v1, .int v2, .int v3] A r := by
  refine xj_M.of hl (by decide +kernel) (by simp [lg_sl, xj_ic, xj_lc, xj_rv_cat]) (fun z B hA hr => ?_)
  subst hr
  have hw := wR_addWeekday hl B v0 v1 v2 v3 A h
  simpa [lv_args, xj_ic, xj_lc, xj_rv_cat] using hw
/-! RecurrenceBook$RuleReader.readWeekday()Z -/
def fQ_readWeekday_33 (v0 : xj_Rf) (v1 : Int32) (v2 : Int32) (A : xj_H) : Option xj_R :=
  xj_bi (xj_rq A v0 5 (fQ_takeWeekday v0 A)) fun x1 A2 =>
  if 0 ≤ x1 then
    (xj_gr A2 v0 5 3).bind fun x3 =>
    xj_bv (xj_rq A2 x3 4 (fR_addWeekday x3 x1 v2 v1 A2)) fun A4 =>
    xj_rz (1 : Int32) A4
  else
    xj_rz (0 : Int32) A2
def fQ_readWeekday_20 (v0 : xj_Rf) (v1 : Int32) (A : xj_H) : Option xj_R :=
  xj_bi (xj_rq A v0 5 (fQ_takeNumber v0 (1 : Int32) (5 : Int32) A)) fun x1 A2 =>
  if ¬ x1 = 0 then
    fQ_readWeekday_33 v0 v1 x1 A2
  else
    xj_rz (0 : Int32) A2
def fQ_readWeekday (v0 : xj_Rf) (A : xj_H) : Option xj_R :=
  xj_bi (xj_rq A v0 5 (fQ_take v0 (45 : Int32) A)) fun x1 A2 =>
  if ¬ x1 = 0 then
    fQ_readWeekday_20 v0 x1 A2
  else
    xj_bi (xj_rq A2 v0 5 (fQ_isDigitNext v0 A2)) fun x3 A4 =>
    if x3 = 0 then
      fQ_readWeekday_33 v0 x1 (0 : Int32) A4
    else
      fQ_readWeekday_20 v0 x1 A4
theorem wQ_readWeekday_33 {l : Launch} (hl : l.stackTraces = false) {z : xj_F} (B : xj_B l yQ_readWeekday prog_6_method_9_code 4 (some .boolean) [] 6 z) (v0 : xj_Rf) (v1 : Int32) (v2 : Int32) (A : xj_H) (h : fQ_readWeekday_33 v0 v1 v2 A = some (xf_r z)) : xj_W l z 33 [(0, xj_rv v0), (1, .int v1), (2, .int v2)] [] A := by
  unfold fQ_readWeekday_33 at h
  refine xg_aload_n (pc := 33) (i := 0) (r := v0) B dQ_readWeekday_33 rfl rfl ?_
  obtain ⟨hq34, h⟩ := xj_rq_i h
  refine xg_ci (pc := 34) (av := [xj_rv v0]) (st := []) (cy := prog_6_method_12_code) (nLy := 3) (rety := (some .int)) (hsy := []) B dQ_readWeekday_34 (xj_go_v B dQ_readWeekday_34 vwQ_140 rfl hq34) (xj_vw_c vwQ_140) (xj_vw_i vwQ_140) (by decide) (by decide) (by decide) rfl (fun r9 h9 => cQ_takeWeekday hl _ _ r9 h9) h (fun x1 A2 eA2 h => ?_)
  refine xg_istore_n (pc := 37) (i := 3) (ls' := [(3, .int x1), (0, xj_rv v0), (1, .int v1), (2, .int v2)]) B dQ_readWeekday_37 rfl (by decide) ⟨xj_nq (a := 0) (i := 3) (by decide), xj_nq (a := 1) (i := 3) (by decide), fun _ => rfl, trivial⟩ rfl ?_
  refine xg_iload_n (pc := 38) (i := 3) B dQ_readWeekday_38 rfl rfl ?_
  refine xg_if_ge (pc := 39) (tgt := 44) B dQ_readWeekday_39 (by decide) h (fun c39 h => ?_) (fun c39 h => ?_)
  · refine xg_aload_n (pc := 44) (i := 0) (r := v0) B dQ_readWeekday_44 rfl rfl ?_
    refine xg_getr (pc := 45) B dQ_readWeekday_45 flQ_25 h (fun x3 ex3 h => ?_)
    refine xg_iload_n (pc := 48) (i := 3) B dQ_readWeekday_48 rfl rfl ?_
    refine xg_iload_n (pc := 49) (i := 2) B dQ_readWeekday_49 rfl rfl ?_
    refine xg_iload_n (pc := 50) (i := 1) B dQ_readWeekday_50 rfl rfl ?_
    obtain ⟨hq51, h⟩ := xj_rq_v h
    refine xg_cv (pc := 51) (av := [xj_rv x3, .int x1, .int v2, .int v1]) (st := []) (cy := prog_5_method_3_code) (nLy := 4) (rety := none) (hsy := []) B dQ_readWeekday_51 (xj_go_v B dQ_readWeekday_51 vwQ_144 rfl hq51) (xj_vw_c vwQ_144) (xj_vw_i vwQ_144) (by decide) (by decide) (by decide) rfl (fun r9 h9 => cR_addWeekday hl _ _ _ _ _ r9 h9) h (fun A4 eA4 h => ?_)
    refine xg_iconst (pc := 54) (v := 1) B dQ_readWeekday_54 (by decide) ?_
    exact xg_zret B dQ_readWeekday_55 h
  · refine xg_iconst (pc := 42) (v := 0) B dQ_readWeekday_42 (by decide) ?_
    exact xg_zret B dQ_readWeekday_43 h
theorem wQ_readWeekday_20 {l : Launch} (hl : l.stackTraces = false) {z : xj_F} (B : xj_B l yQ_readWeekday prog_6_method_9_code 4 (some .boolean) [] 6 z) (v0 : xj_Rf) (v1 : Int32) (A : xj_H) (h : fQ_readWeekday_20 v0 v1 A = some (xf_r z)) : xj_W l z 20 [(0, xj_rv v0), (1, .int v1)] [] A := by
  unfold fQ_readWeekday_20 at h
  refine xg_aload_n (pc := 20) (i := 0) (r := v0) B dQ_readWeekday_20 rfl rfl ?_
  refine xg_iconst (pc := 21) (v := 1) B dQ_readWeekday_21 (by decide) ?_
  refine xg_iconst (pc := 22) (v := 5) B dQ_readWeekday_22 (by decide) ?_
  obtain ⟨hq23, h⟩ := xj_rq_i h
  refine xg_ci (pc := 23) (av := [xj_rv v0, .int (1 : Int32), .int (5 : Int32)]) (st := []) (cy := prog_6_method_13_code) (nLy := 5) (rety := (some .int)) (hsy := []) B dQ_readWeekday_23 (xj_go_v B dQ_readWeekday_23 vwQ_120 rfl hq23) (xj_vw_c vwQ_120) (xj_vw_i vwQ_120) (by decide) (by decide) (by decide) rfl (fun r9 h9 => cQ_takeNumber hl _ _ _ _ r9 h9) h (fun x1 A2 eA2 h => ?_)
  refine xg_istore_n (pc := 26) (i := 2) (ls' := [(2, .int x1), (0, xj_rv v0), (1, .int v1)]) B dQ_readWeekday_26 rfl (by decide) ⟨xj_nq (a := 0) (i := 2) (by decide), fun _ => rfl, trivial⟩ rfl ?_
  refine xg_iload_n (pc := 27) (i := 2) B dQ_readWeekday_27 rfl rfl ?_
  refine xg_if_ne (pc := 28) (tgt := 33) B dQ_readWeekday_28 (by decide) h (fun c28 h => ?_) (fun c28 h => ?_)
  · refine xg_sub (ls' := [(0, xj_rv v0), (1, .int v1), (2, .int x1)]) [1, 2, 0] rfl ?_
    exact wQ_readWeekday_33 hl B v0 v1 x1 A2 h
  · refine xg_iconst (pc := 31) (v := 0) B dQ_readWeekday_31 (by decide) ?_
    exact xg_zret B dQ_readWeekday_32 h
theorem wQ_readWeekday {l : Launch} (hl : l.stackTraces = false) {z : xj_F} (B : xj_B l yQ_readWeekday prog_6_method_9_code 4 (some .boolean) [] 6 z) (v0 : xj_Rf) (A : xj_H) (h : fQ_readWeekday v0 A = some (xf_r z)) : xj_W l z 0 [(0, xj_rv v0)] [] A := by
  unfold fQ_readWeekday at h
  refine xg_aload_n (pc := 0) (i := 0) (r := v0) B dQ_readWeekday_0 rfl rfl ?_
  refine xg_bipush (pc := 1) (v := 45) B dQ_readWeekday_1 (by decide) ?_
  obtain ⟨hq3, h⟩ := xj_rq_i h
  refine xg_ci (pc := 3) (av := [xj_rv v0, .int (45 : Int32)]) (st := []) (cy := prog_6_method_15_code) (nLy := 2) (rety := (some .boolean)) (hsy := []) B dQ_readWeekday_3 (xj_go_v B dQ_readWeekday_3 vwQ_48 rfl hq3) (xj_vw_c vwQ_48) (xj_vw_i vwQ_48) (by decide) (by decide) (by decide) rfl (fun r9 h9 => cQ_take hl _ _ _ r9 h9) h (fun x1 A2 eA2 h => ?_)
  refine xg_istore_n (pc := 6) (i := 1) (ls' := [(1, .int x1), (0, xj_rv v0)]) B dQ_readWeekday_6 rfl (by decide) ⟨fun _ => xj_rv_cat v0, trivial⟩ rfl ?_
  refine xg_iconst (pc := 7) (v := 0) B dQ_readWeekday_7 (by decide) ?_
  refine xg_istore_n (pc := 8) (i := 2) (ls' := [(2, .int (0 : Int32)), (1, .int x1), (0, xj_rv v0)]) B dQ_readWeekday_8 rfl (by decide) ⟨fun _ => rfl, xj_nq (a := 0) (i := 2) (by decide), trivial⟩ rfl ?_
  refine xg_iload_n (pc := 9) (i := 1) B dQ_readWeekday_9 rfl rfl ?_
  refine xg_if_ne (pc := 10) (tgt := 20) B dQ_readWeekday_10 (by decide) h (fun c10 h => ?_) (fun c10 h => ?_)
  · refine xg_sub (ls' := [(0, xj_rv v0), (1, .int x1)]) [2, 1] rfl ?_
    exact wQ_readWeekday_20 hl B v0 x1 A2 h
  · refine xg_aload_n (pc := 13) (i := 0) (r := v0) B dQ_readWeekday_13 rfl rfl ?_
    obtain ⟨hq14, h⟩ := xj_rq_i h
    refine xg_ci (pc := 14) (av := [xj_rv v0]) (st := []) (cy := prog_6_method_14_code) (nLy := 1) (rety := (some .boolean)) (hsy := []) B dQ_readWeekday_14 (xj_go_v B dQ_readWeekday_14 vwQ_137 rfl hq14) (xj_vw_c vwQ_137) (xj_vw_i vwQ_137) (by decide) (by decide) (by decide) rfl (fun r9 h9 => cQ_isDigitNext hl _ _ r9 h9) h (fun x3 A4 eA4 h => ?_)
    refine xg_if_eq (pc := 17) (tgt := 33) B dQ_readWeekday_17 (by decide) h (fun c17 h => ?_) (fun c17 h => ?_)
    · refine xg_sub (ls' := [(0, xj_rv v0), (1, .int x1), (2, .int (0 : Int32))]) [2, 1, 0] rfl ?_
      exact wQ_readWeekday_33 hl B v0 x1 (0 : Int32) A4 h
    · refine xg_sub (ls' := [(0, xj_rv v0), (1, .int x1)]) [2, 1] rfl ?_
      exact wQ_readWeekday_20 hl B v0 x1 A4 h
theorem cQ_readWeekday {l : Launch} (hl : l.stackTraces = false) (v0 : xj_Rf) (A : xj_H) (r : xj_R) (h : fQ_readWeekday v0 A = some r) : xj_M l yQ_readWeekday prog_6_method_9_code 4 (some .boolean) [] 6 [xj_rv v0] A r := by
  refine xj_M.of hl (by decide +kernel) (by simp [lg_sl, xj_ic, xj_lc, xj_rv_cat]) (fun z B hA hr => ?_)
  subst hr
  have hw := wQ_readWeekday hl B v0 A h
  simpa [lv_args, xj_ic, xj_lc, xj_rv_cat] using hw
/-! RecurrenceBook$RuleReader.readWeekdays()Z -/
def fQ_readWeekdays_2 : Nat → xj_Rf → Int32 → xj_H → Option xj_R
  | 0, _, _, _ => none
  | n + 1, v0, v1, A =>
    if (7 : Int32) ≤ v1 then
      xj_rz (0 : Int32) A
    else
      xj_bi (xj_rq A v0 5 (fQ_readWeekday v0 A)) fun x1 A2 =>
      if ¬ x1 = 0 then
        xj_bi (xj_rq A2 v0 5 (fQ_take v0 (44 : Int32) A2)) fun x3 A4 =>
        if ¬ x3 = 0 then
          (fQ_readWeekdays_2 n) v0 (v1 + 1) A4
        else
          xj_rz (1 : Int32) A4
      else
        xj_rz (0 : Int32) A2
def fQ_readWeekdays (v0 : xj_Rf) (A : xj_H) : Option xj_R :=
  fQ_readWeekdays_2 xj_fu v0 (0 : Int32) A
theorem wQ_readWeekdays_2 {l : Launch} (hl : l.stackTraces = false) {z : xj_F} (B : xj_B l yQ_readWeekdays prog_6_method_8_code 2 (some .boolean) [] 7 z) : ∀ (n : Nat) (v0 : xj_Rf) (v1 : Int32) (A : xj_H), fQ_readWeekdays_2 n v0 v1 A = some (xf_r z) → xj_W l z 2 [(0, xj_rv v0), (1, .int v1)] [] A
  | 0, _, _, _, h => by simp [fQ_readWeekdays_2] at h
  | n + 1, v0, v1, A, h => by
    rw [fQ_readWeekdays_2] at h
    refine xg_iload_n (pc := 2) (i := 1) B dQ_readWeekdays_2 rfl rfl ?_
    refine xg_bipush (pc := 3) (v := 7) B dQ_readWeekdays_3 (by decide) ?_
    refine xg_icmp_ge (pc := 5) (tgt := 34) B dQ_readWeekdays_5 (by decide) h (fun c5 h => ?_) (fun c5 h => ?_)
    · refine xg_iconst (pc := 34) (v := 0) B dQ_readWeekdays_34 (by decide) ?_
      exact xg_zret B dQ_readWeekdays_35 h
    · refine xg_aload_n (pc := 8) (i := 0) (r := v0) B dQ_readWeekdays_8 rfl rfl ?_
      obtain ⟨hq9, h⟩ := xj_rq_i h
      refine xg_ci (pc := 9) (av := [xj_rv v0]) (st := []) (cy := prog_6_method_9_code) (nLy := 4) (rety := (some .boolean)) (hsy := []) B dQ_readWeekdays_9 (xj_go_v B dQ_readWeekdays_9 vwQ_134 rfl hq9) (xj_vw_c vwQ_134) (xj_vw_i vwQ_134) (by decide) (by decide) (by decide) rfl (fun r9 h9 => cQ_readWeekday hl _ _ r9 h9) h (fun x1 A2 eA2 h => ?_)
      refine xg_if_ne (pc := 12) (tgt := 17) B dQ_readWeekdays_12 (by decide) h (fun c12 h => ?_) (fun c12 h => ?_)
      · refine xg_aload_n (pc := 17) (i := 0) (r := v0) B dQ_readWeekdays_17 rfl rfl ?_
        refine xg_bipush (pc := 18) (v := 44) B dQ_readWeekdays_18 (by decide) ?_
        obtain ⟨hq20, h⟩ := xj_rq_i h
        refine xg_ci (pc := 20) (av := [xj_rv v0, .int (44 : Int32)]) (st := []) (cy := prog_6_method_15_code) (nLy := 2) (rety := (some .boolean)) (hsy := []) B dQ_readWeekdays_20 (xj_go_v B dQ_readWeekdays_20 vwQ_48 rfl hq20) (xj_vw_c vwQ_48) (xj_vw_i vwQ_48) (by decide) (by decide) (by decide) rfl (fun r9 h9 => cQ_take hl _ _ _ r9 h9) h (fun x3 A4 eA4 h => ?_)
        refine xg_if_ne (pc := 23) (tgt := 28) B dQ_readWeekdays_23 (by decide) h (fun c23 h => ?_) (fun c23 h => ?_)
        · refine xg_iinc (pc := 28) (i := 1) (v := (v1 + 1)) (ls' := [(1, .int (v1 + 1)), (0, xj_rv v0)]) B dQ_readWeekdays_28 rfl (xj_inc_1 _) (by decide) ⟨fun _ => xj_rv_cat v0, xj_nq (a := 1) (i := 1) (by decide), trivial⟩ rfl ?_
          refine xg_goto (pc := 31) (tgt := 2) B dQ_readWeekdays_31 (by decide) ?_
          refine xg_sub (ls' := [(0, xj_rv v0), (1, .int (v1 + 1))]) [1, 0] rfl ?_
          exact (wQ_readWeekdays_2 hl B n) v0 (v1 + 1) A4 h
        · refine xg_iconst (pc := 26) (v := 1) B dQ_readWeekdays_26 (by decide) ?_
          exact xg_zret B dQ_readWeekdays_27 h
      · refine xg_iconst (pc := 15) (v := 0) B dQ_readWeekdays_15 (by decide) ?_
        exact xg_zret B dQ_readWeekdays_16 h
theorem wQ_readWeekdays {l : Launch} (hl : l.stackTraces = false) {z : xj_F} (B : xj_B l yQ_readWeekdays prog_6_method_8_code 2 (some .boolean) [] 7 z) (v0 : xj_Rf) (A : xj_H) (h : fQ_readWeekdays v0 A = some (xf_r z)) : xj_W l z 0 [(0, xj_rv v0)] [] A := by
  unfold fQ_readWeekdays at h
  refine xg_iconst (pc := 0) (v := 0) B dQ_readWeekdays_0 (by decide) ?_
  refine xg_istore_n (pc := 1) (i := 1) (ls' := [(1, .int (0 : Int32)), (0, xj_rv v0)]) B dQ_readWeekdays_1 rfl (by decide) ⟨fun _ => xj_rv_cat v0, trivial⟩ rfl ?_
  refine xg_sub (ls' := [(0, xj_rv v0), (1, .int (0 : Int32))]) [1, 0] rfl ?_
  exact wQ_readWeekdays_2 hl B xj_fu v0 (0 : Int32) A h
theorem cQ_readWeekdays {l : Launch} (hl : l.stackTraces = false) (v0 : xj_Rf) (A : xj_H) (r : xj_R) (h : fQ_readWeekdays v0 A = some r) : xj_M l yQ_readWeekdays prog_6_method_8_code 2 (some .boolean) [] 7 [xj_rv v0] A r := by
  refine xj_M.of hl (by decide +kernel) (by simp [lg_sl, xj_ic, xj_lc, xj_rv_cat]) (fun z B hA hr => ?_)
  subst hr
  have hw := wQ_readWeekdays hl B v0 A h
  simpa [lv_args, xj_ic, xj_lc, xj_rv_cat] using hw
/-! RecurrenceBook$Rule.hasNumbers()Z -/
def fR_hasNumbers_17 (s0 : Int32) (A : xj_H) : Option xj_R :=
  xj_rz s0 A
def fR_hasNumbers (v0 : xj_Rf) (A : xj_H) : Option xj_R :=
  (xj_gi A v0 4 6).bind fun x1 =>
  (xj_gi A v0 4 7).bind fun x2 =>
  if (x1 ||| x2) = 0 then
    fR_hasNumbers_17 (0 : Int32) A
  else
    fR_hasNumbers_17 (1 : Int32) A
theorem wR_hasNumbers_17 {l : Launch} (hl : l.stackTraces = false) {z : xj_F} (B : xj_B l yR_hasNumbers prog_5_method_7_code 1 (some .boolean) [] 1 z) (s0 : Int32) (A : xj_H) (h : fR_hasNumbers_17 s0 A = some (xf_r z)) : xj_W l z 17 [] [.int s0] A := by
  unfold fR_hasNumbers_17 at h
  exact xg_zret B dR_hasNumbers_17 h
theorem wR_hasNumbers {l : Launch} (hl : l.stackTraces = false) {z : xj_F} (B : xj_B l yR_hasNumbers prog_5_method_7_code 1 (some .boolean) [] 1 z) (v0 : xj_Rf) (A : xj_H) (h : fR_hasNumbers v0 A = some (xf_r z)) : xj_W l z 0 [(0, xj_rv v0)] [] A := by
  unfold fR_hasNumbers at h
  refine xg_aload_n (pc := 0) (i := 0) (r := v0) B dR_hasNumbers_0 rfl rfl ?_
  refine xg_geti (pc := 1) B dR_hasNumbers_1 flR_23 h (fun x1 ex1 h => ?_)
  refine xg_aload_n (pc := 4) (i := 0) (r := v0) B dR_hasNumbers_4 rfl rfl ?_
  refine xg_geti (pc := 5) B dR_hasNumbers_5 flR_20 h (fun x2 ex2 h => ?_)
  refine xg_ior (pc := 8) B dR_hasNumbers_8 ?_
  refine xg_if_eq (pc := 9) (tgt := 16) B dR_hasNumbers_9 (by decide) h (fun c9 h => ?_) (fun c9 h => ?_)
  · refine xg_iconst (pc := 16) (v := 0) B dR_hasNumbers_16 (by decide) ?_
    refine xg_sub (ls' := []) [] rfl ?_
    exact wR_hasNumbers_17 hl B (0 : Int32) A h
  · refine xg_iconst (pc := 12) (v := 1) B dR_hasNumbers_12 (by decide) ?_
    refine xg_goto (pc := 13) (tgt := 17) B dR_hasNumbers_13 (by decide) ?_
    refine xg_sub (ls' := []) [] rfl ?_
    exact wR_hasNumbers_17 hl B (1 : Int32) A h
theorem cR_hasNumbers {l : Launch} (hl : l.stackTraces = false) (v0 : xj_Rf) (A : xj_H) (r : xj_R) (h : fR_hasNumbers v0 A = some r) : xj_M l yR_hasNumbers prog_5_method_7_code 1 (some .boolean) [] 1 [xj_rv v0] A r := by
  refine xj_M.of hl (by decide +kernel) (by simp [lg_sl, xj_ic, xj_lc, xj_rv_cat]) (fun z B hA hr => ?_)
  subst hr
  have hw := wR_hasNumbers hl B v0 A h
  simpa [lv_args, xj_ic, xj_lc, xj_rv_cat] using hw
/-! RecurrenceBook$Rule.addNumber(IZ)V -/
def fR_addNumber_31 (A : xj_H) : Option xj_R :=
  some (.inl none, A)
def fR_addNumber (v0 : xj_Rf) (v1 : Int32) (v2 : Int32) (A : xj_H) : Option xj_R :=
  if v2 = 0 then
    (xj_gi A v0 4 6).bind fun x1 =>
    (xj_pv A v0 4 6 (.int (x1 ||| ((1 : Int32) <<< (v1 &&& 31))))).bind fun A2 =>
    fR_addNumber_31  A2
  else
    (xj_gi A v0 4 7).bind fun x3 =>
    (xj_pv A v0 4 7 (.int (x3 ||| ((1 : Int32) <<< (v1 &&& 31))))).bind fun A4 =>
    fR_addNumber_31  A4
theorem wR_addNumber_31 {l : Launch} (hl : l.stackTraces = false) {z : xj_F} (B : xj_B l yR_addNumber prog_5_method_2_code 3 none [] 1 z) (A : xj_H) (h : fR_addNumber_31  A = some (xf_r z)) : xj_W l z 31 [] [] A := by
  unfold fR_addNumber_31 at h
  exact xg_vret B dR_addNumber_31 h
theorem wR_addNumber {l : Launch} (hl : l.stackTraces = false) {z : xj_F} (B : xj_B l yR_addNumber prog_5_method_2_code 3 none [] 1 z) (v0 : xj_Rf) (v1 : Int32) (v2 : Int32) (A : xj_H) (h : fR_addNumber v0 v1 v2 A = some (xf_r z)) : xj_W l z 0 [(0, xj_rv v0), (1, .int v1), (2, .int v2)] [] A := by
  unfold fR_addNumber at h
  refine xg_iload_n (pc := 0) (i := 2) B dR_addNumber_0 rfl rfl ?_
  refine xg_if_eq (pc := 1) (tgt := 19) B dR_addNumber_1 (by decide) h (fun c1 h => ?_) (fun c1 h => ?_)
  · refine xg_aload_n (pc := 19) (i := 0) (r := v0) B dR_addNumber_19 rfl rfl ?_
    refine xg_dup (pc := 20) B dR_addNumber_20 (xj_rv_cat v0) ?_
    refine xg_geti (pc := 21) B dR_addNumber_21 flR_23 h (fun x1 ex1 h => ?_)
    refine xg_iconst (pc := 24) (v := 1) B dR_addNumber_24 (by decide) ?_
    refine xg_iload_n (pc := 25) (i := 1) B dR_addNumber_25 rfl rfl ?_
    refine xg_ishl (pc := 26) B dR_addNumber_26 ?_
    refine xg_ior (pc := 27) B dR_addNumber_27 ?_
    refine xg_puti (pc := 28) B dR_addNumber_28 (fpR_23 _) h (fun A2 eA2 h => ?_)
    refine xg_sub (ls' := []) [] rfl ?_
    exact wR_addNumber_31 hl B  A2 h
  · refine xg_aload_n (pc := 4) (i := 0) (r := v0) B dR_addNumber_4 rfl rfl ?_
    refine xg_dup (pc := 5) B dR_addNumber_5 (xj_rv_cat v0) ?_
    refine xg_geti (pc := 6) B dR_addNumber_6 flR_20 h (fun x3 ex3 h => ?_)
    refine xg_iconst (pc := 9) (v := 1) B dR_addNumber_9 (by decide) ?_
    refine xg_iload_n (pc := 10) (i := 1) B dR_addNumber_10 rfl rfl ?_
    refine xg_ishl (pc := 11) B dR_addNumber_11 ?_
    refine xg_ior (pc := 12) B dR_addNumber_12 ?_
    refine xg_puti (pc := 13) B dR_addNumber_13 (fpR_20 _) h (fun A4 eA4 h => ?_)
    refine xg_goto (pc := 16) (tgt := 31) B dR_addNumber_16 (by decide) ?_
    refine xg_sub (ls' := []) [] rfl ?_
    exact wR_addNumber_31 hl B  A4 h
theorem cR_addNumber {l : Launch} (hl : l.stackTraces = false) (v0 : xj_Rf) (v1 : Int32) (v2 : Int32) (A : xj_H) (r : xj_R) (h : fR_addNumber v0 v1 v2 A = some r) : xj_M l yR_addNumber prog_5_method_2_code 3 none [] 1 [xj_rv v0, .int v1, .int v2] A r := by
  refine xj_M.of hl (by decide +kernel) (by simp [lg_sl, xj_ic, xj_lc, xj_rv_cat]) (fun z B hA hr => ?_)
  subst hr
  have hw := wR_addNumber hl B v0 v1 v2 A h
  simpa [lv_args, xj_ic, xj_lc, xj_rv_cat] using hw
/-! RecurrenceBook$RuleReader.readNumbers()Z -/
def fQ_readNumbers_2 : Nat → xj_Rf → Int32 → xj_H → Option xj_R
  | 0, _, _, _ => none
  | n + 1, v0, v1, A =>
    if (8 : Int32) ≤ v1 then
      xj_rz (0 : Int32) A
    else
      xj_bi (xj_rq A v0 5 (fQ_take v0 (45 : Int32) A)) fun x1 A2 =>
      xj_bi (xj_rq A2 v0 5 (fQ_takeNumber v0 (2 : Int32) (31 : Int32) A2)) fun x3 A4 =>
      if ¬ x3 = 0 then
        (xj_gr A4 v0 5 3).bind fun x5 =>
        xj_bv (xj_rq A4 x5 4 (fR_addNumber x5 x3 x1 A4)) fun A6 =>
        xj_bi (xj_rq A6 v0 5 (fQ_take v0 (44 : Int32) A6)) fun x7 A8 =>
        if ¬ x7 = 0 then
          (fQ_readNumbers_2 n) v0 (v1 + 1) A8
        else
          xj_rz (1 : Int32) A8
      else
        xj_rz (0 : Int32) A4
def fQ_readNumbers (v0 : xj_Rf) (A : xj_H) : Option xj_R :=
  fQ_readNumbers_2 xj_fu v0 (0 : Int32) A
theorem wQ_readNumbers_2 {l : Launch} (hl : l.stackTraces = false) {z : xj_F} (B : xj_B l yQ_readNumbers prog_6_method_10_code 4 (some .boolean) [] 3 z) : ∀ (n : Nat) (v0 : xj_Rf) (v1 : Int32) (A : xj_H), fQ_readNumbers_2 n v0 v1 A = some (xf_r z) → xj_W l z 2 [(0, xj_rv v0), (1, .int v1)] [] A
  | 0, _, _, _, h => by simp [fQ_readNumbers_2] at h
  | n + 1, v0, v1, A, h => by
    rw [fQ_readNumbers_2] at h
    refine xg_iload_n (pc := 2) (i := 1) B dQ_readNumbers_2 rfl rfl ?_
    refine xg_bipush (pc := 3) (v := 8) B dQ_readNumbers_3 (by decide) ?_
    refine xg_icmp_ge (pc := 5) (tgt := 55) B dQ_readNumbers_5 (by decide) h (fun c5 h => ?_) (fun c5 h => ?_)
    · refine xg_iconst (pc := 55) (v := 0) B dQ_readNumbers_55 (by decide) ?_
      exact xg_zret B dQ_readNumbers_56 h
    · refine xg_aload_n (pc := 8) (i := 0) (r := v0) B dQ_readNumbers_8 rfl rfl ?_
      refine xg_bipush (pc := 9) (v := 45) B dQ_readNumbers_9 (by decide) ?_
      obtain ⟨hq11, h⟩ := xj_rq_i h
      refine xg_ci (pc := 11) (av := [xj_rv v0, .int (45 : Int32)]) (st := []) (cy := prog_6_method_15_code) (nLy := 2) (rety := (some .boolean)) (hsy := []) B dQ_readNumbers_11 (xj_go_v B dQ_readNumbers_11 vwQ_48 rfl hq11) (xj_vw_c vwQ_48) (xj_vw_i vwQ_48) (by decide) (by decide) (by decide) rfl (fun r9 h9 => cQ_take hl _ _ _ r9 h9) h (fun x1 A2 eA2 h => ?_)
      refine xg_istore_n (pc := 14) (i := 2) (ls' := [(2, .int x1), (0, xj_rv v0), (1, .int v1)]) B dQ_readNumbers_14 rfl (by decide) ⟨xj_nq (a := 0) (i := 2) (by decide), fun _ => rfl, trivial⟩ rfl ?_
      refine xg_aload_n (pc := 15) (i := 0) (r := v0) B dQ_readNumbers_15 rfl rfl ?_
      refine xg_iconst (pc := 16) (v := 2) B dQ_readNumbers_16 (by decide) ?_
      refine xg_bipush (pc := 17) (v := 31) B dQ_readNumbers_17 (by decide) ?_
      obtain ⟨hq19, h⟩ := xj_rq_i h
      refine xg_ci (pc := 19) (av := [xj_rv v0, .int (2 : Int32), .int (31 : Int32)]) (st := []) (cy := prog_6_method_13_code) (nLy := 5) (rety := (some .int)) (hsy := []) B dQ_readNumbers_19 (xj_go_v B dQ_readNumbers_19 vwQ_120 rfl hq19) (xj_vw_c vwQ_120) (xj_vw_i vwQ_120) (by decide) (by decide) (by decide) rfl (fun r9 h9 => cQ_takeNumber hl _ _ _ _ r9 h9) h (fun x3 A4 eA4 h => ?_)
      refine xg_istore_n (pc := 22) (i := 3) (ls' := [(3, .int x3), (2, .int x1), (0, xj_rv v0), (1, .int v1)]) B dQ_readNumbers_22 rfl (by decide) ⟨fun _ => rfl, xj_nq (a := 0) (i := 3) (by decide), xj_nq (a := 1) (i := 3) (by decide), trivial⟩ rfl ?_
      refine xg_iload_n (pc := 23) (i := 3) B dQ_readNumbers_23 rfl rfl ?_
      refine xg_if_ne (pc := 24) (tgt := 29) B dQ_readNumbers_24 (by decide) h (fun c24 h => ?_) (fun c24 h => ?_)
      · refine xg_aload_n (pc := 29) (i := 0) (r := v0) B dQ_readNumbers_29 rfl rfl ?_
        refine xg_getr (pc := 30) B dQ_readNumbers_30 flQ_25 h (fun x5 ex5 h => ?_)
        refine xg_iload_n (pc := 33) (i := 3) B dQ_readNumbers_33 rfl rfl ?_
        refine xg_iload_n (pc := 34) (i := 2) B dQ_readNumbers_34 rfl rfl ?_
        obtain ⟨hq35, h⟩ := xj_rq_v h
        refine xg_cv (pc := 35) (av := [xj_rv x5, .int x3, .int x1]) (st := []) (cy := prog_5_method_2_code) (nLy := 3) (rety := none) (hsy := []) B dQ_readNumbers_35 (xj_go_v B dQ_readNumbers_35 vwQ_148 rfl hq35) (xj_vw_c vwQ_148) (xj_vw_i vwQ_148) (by decide) (by decide) (by decide) rfl (fun r9 h9 => cR_addNumber hl _ _ _ _ r9 h9) h (fun A6 eA6 h => ?_)
        refine xg_aload_n (pc := 38) (i := 0) (r := v0) B dQ_readNumbers_38 rfl rfl ?_
        refine xg_bipush (pc := 39) (v := 44) B dQ_readNumbers_39 (by decide) ?_
        obtain ⟨hq41, h⟩ := xj_rq_i h
        refine xg_ci (pc := 41) (av := [xj_rv v0, .int (44 : Int32)]) (st := []) (cy := prog_6_method_15_code) (nLy := 2) (rety := (some .boolean)) (hsy := []) B dQ_readNumbers_41 (xj_go_v B dQ_readNumbers_41 vwQ_48 rfl hq41) (xj_vw_c vwQ_48) (xj_vw_i vwQ_48) (by decide) (by decide) (by decide) rfl (fun r9 h9 => cQ_take hl _ _ _ r9 h9) h (fun x7 A8 eA8 h => ?_)
        refine xg_if_ne (pc := 44) (tgt := 49) B dQ_readNumbers_44 (by decide) h (fun c44 h => ?_) (fun c44 h => ?_)
        · refine xg_iinc (pc := 49) (i := 1) (v := (v1 + 1)) (ls' := [(1, .int (v1 + 1)), (3, .int x3), (2, .int x1), (0, xj_rv v0)]) B dQ_readNumbers_49 rfl (xj_inc_1 _) (by decide) ⟨xj_nq (a := 3) (i := 1) (by decide), xj_nq (a := 2) (i := 1) (by decide), fun _ => xj_rv_cat v0, xj_nq (a := 1) (i := 1) (by decide), trivial⟩ rfl ?_
          refine xg_goto (pc := 52) (tgt := 2) B dQ_readNumbers_52 (by decide) ?_
          refine xg_sub (ls' := [(0, xj_rv v0), (1, .int (v1 + 1))]) [3, 0] rfl ?_
          exact (wQ_readNumbers_2 hl B n) v0 (v1 + 1) A8 h
        · refine xg_iconst (pc := 47) (v := 1) B dQ_readNumbers_47 (by decide) ?_
          exact xg_zret B dQ_readNumbers_48 h
      · refine xg_iconst (pc := 27) (v := 0) B dQ_readNumbers_27 (by decide) ?_
        exact xg_zret B dQ_readNumbers_28 h
theorem wQ_readNumbers {l : Launch} (hl : l.stackTraces = false) {z : xj_F} (B : xj_B l yQ_readNumbers prog_6_method_10_code 4 (some .boolean) [] 3 z) (v0 : xj_Rf) (A : xj_H) (h : fQ_readNumbers v0 A = some (xf_r z)) : xj_W l z 0 [(0, xj_rv v0)] [] A := by
  unfold fQ_readNumbers at h
  refine xg_iconst (pc := 0) (v := 0) B dQ_readNumbers_0 (by decide) ?_
  refine xg_istore_n (pc := 1) (i := 1) (ls' := [(1, .int (0 : Int32)), (0, xj_rv v0)]) B dQ_readNumbers_1 rfl (by decide) ⟨fun _ => xj_rv_cat v0, trivial⟩ rfl ?_
  refine xg_sub (ls' := [(0, xj_rv v0), (1, .int (0 : Int32))]) [1, 0] rfl ?_
  exact wQ_readNumbers_2 hl B xj_fu v0 (0 : Int32) A h
theorem cQ_readNumbers {l : Launch} (hl : l.stackTraces = false) (v0 : xj_Rf) (A : xj_H) (r : xj_R) (h : fQ_readNumbers v0 A = some r) : xj_M l yQ_readNumbers prog_6_method_10_code 4 (some .boolean) [] 3 [xj_rv v0] A r := by
  refine xj_M.of hl (by decide +kernel) (by simp [lg_sl, xj_ic, xj_lc, xj_rv_cat]) (fun z B hA hr => ?_)
  subst hr
  have hw := wQ_readNumbers hl B v0 A h
  simpa [lv_args, xj_ic, xj_lc, xj_rv_cat] using hw
/-! RecurrenceBook$RuleReader.readMonths()Z -/
def fQ_readMonths_2 : Nat → xj_Rf → Int32 → xj_H → Option xj_R
  | 0, _, _, _ => none
  | n + 1, v0, v1, A =>
    if (8 : Int32) ≤ v1 then
      xj_rz (0 : Int32) A
    else
      xj_bi (xj_rq A v0 5 (fQ_takeNumber v0 (2 : Int32) (12 : Int32) A)) fun x1 A2 =>
      if ¬ x1 = 0 then
        (xj_gr A2 v0 5 3).bind fun x3 =>
        (xj_gi A2 x3 4 5).bind fun x4 =>
        (xj_pv A2 x3 4 5 (.int (x4 ||| ((1 : Int32) <<< (x1 &&& 31))))).bind fun A5 =>
        xj_bi (xj_rq A5 v0 5 (fQ_take v0 (44 : Int32) A5)) fun x6 A7 =>
        if ¬ x6 = 0 then
          (fQ_readMonths_2 n) v0 (v1 + 1) A7
        else
          xj_rz (1 : Int32) A7
      else
        xj_rz (0 : Int32) A2
def fQ_readMonths (v0 : xj_Rf) (A : xj_H) : Option xj_R :=
  fQ_readMonths_2 xj_fu v0 (0 : Int32) A
theorem wQ_readMonths_2 {l : Launch} (hl : l.stackTraces = false) {z : xj_F} (B : xj_B l yQ_readMonths prog_6_method_11_code 3 (some .boolean) [] 3 z) : ∀ (n : Nat) (v0 : xj_Rf) (v1 : Int32) (A : xj_H), fQ_readMonths_2 n v0 v1 A = some (xf_r z) → xj_W l z 2 [(0, xj_rv v0), (1, .int v1)] [] A
  | 0, _, _, _, h => by simp [fQ_readMonths_2] at h
  | n + 1, v0, v1, A, h => by
    rw [fQ_readMonths_2] at h
    refine xg_iload_n (pc := 2) (i := 1) B dQ_readMonths_2 rfl rfl ?_
    refine xg_bipush (pc := 3) (v := 8) B dQ_readMonths_3 (by decide) ?_
    refine xg_icmp_ge (pc := 5) (tgt := 54) B dQ_readMonths_5 (by decide) h (fun c5 h => ?_) (fun c5 h => ?_)
    · refine xg_iconst (pc := 54) (v := 0) B dQ_readMonths_54 (by decide) ?_
      exact xg_zret B dQ_readMonths_55 h
    · refine xg_aload_n (pc := 8) (i := 0) (r := v0) B dQ_readMonths_8 rfl rfl ?_
      refine xg_iconst (pc := 9) (v := 2) B dQ_readMonths_9 (by decide) ?_
      refine xg_bipush (pc := 10) (v := 12) B dQ_readMonths_10 (by decide) ?_
      obtain ⟨hq12, h⟩ := xj_rq_i h
      refine xg_ci (pc := 12) (av := [xj_rv v0, .int (2 : Int32), .int (12 : Int32)]) (st := []) (cy := prog_6_method_13_code) (nLy := 5) (rety := (some .int)) (hsy := []) B dQ_readMonths_12 (xj_go_v B dQ_readMonths_12 vwQ_120 rfl hq12) (xj_vw_c vwQ_120) (xj_vw_i vwQ_120) (by decide) (by decide) (by decide) rfl (fun r9 h9 => cQ_takeNumber hl _ _ _ _ r9 h9) h (fun x1 A2 eA2 h => ?_)
      refine xg_istore_n (pc := 15) (i := 2) (ls' := [(2, .int x1), (0, xj_rv v0), (1, .int v1)]) B dQ_readMonths_15 rfl (by decide) ⟨xj_nq (a := 0) (i := 2) (by decide), fun _ => rfl, trivial⟩ rfl ?_
      refine xg_iload_n (pc := 16) (i := 2) B dQ_readMonths_16 rfl rfl ?_
      refine xg_if_ne (pc := 17) (tgt := 22) B dQ_readMonths_17 (by decide) h (fun c17 h => ?_) (fun c17 h => ?_)
      · refine xg_aload_n (pc := 22) (i := 0) (r := v0) B dQ_readMonths_22 rfl rfl ?_
        refine xg_getr (pc := 23) B dQ_readMonths_23 flQ_25 h (fun x3 ex3 h => ?_)
        refine xg_dup (pc := 26) B dQ_readMonths_26 (xj_rv_cat x3) ?_
        refine xg_geti (pc := 27) B dQ_readMonths_27 flQ_101 h (fun x4 ex4 h => ?_)
        refine xg_iconst (pc := 30) (v := 1) B dQ_readMonths_30 (by decide) ?_
        refine xg_iload_n (pc := 31) (i := 2) B dQ_readMonths_31 rfl rfl ?_
        refine xg_ishl (pc := 32) B dQ_readMonths_32 ?_
        refine xg_ior (pc := 33) B dQ_readMonths_33 ?_
        refine xg_puti (pc := 34) B dQ_readMonths_34 (fpQ_101 _) h (fun A5 eA5 h => ?_)
        refine xg_aload_n (pc := 37) (i := 0) (r := v0) B dQ_readMonths_37 rfl rfl ?_
        refine xg_bipush (pc := 38) (v := 44) B dQ_readMonths_38 (by decide) ?_
        obtain ⟨hq40, h⟩ := xj_rq_i h
        refine xg_ci (pc := 40) (av := [xj_rv v0, .int (44 : Int32)]) (st := []) (cy := prog_6_method_15_code) (nLy := 2) (rety := (some .boolean)) (hsy := []) B dQ_readMonths_40 (xj_go_v B dQ_readMonths_40 vwQ_48 rfl hq40) (xj_vw_c vwQ_48) (xj_vw_i vwQ_48) (by decide) (by decide) (by decide) rfl (fun r9 h9 => cQ_take hl _ _ _ r9 h9) h (fun x6 A7 eA7 h => ?_)
        refine xg_if_ne (pc := 43) (tgt := 48) B dQ_readMonths_43 (by decide) h (fun c43 h => ?_) (fun c43 h => ?_)
        · refine xg_iinc (pc := 48) (i := 1) (v := (v1 + 1)) (ls' := [(1, .int (v1 + 1)), (2, .int x1), (0, xj_rv v0)]) B dQ_readMonths_48 rfl (xj_inc_1 _) (by decide) ⟨xj_nq (a := 2) (i := 1) (by decide), fun _ => xj_rv_cat v0, xj_nq (a := 1) (i := 1) (by decide), trivial⟩ rfl ?_
          refine xg_goto (pc := 51) (tgt := 2) B dQ_readMonths_51 (by decide) ?_
          refine xg_sub (ls' := [(0, xj_rv v0), (1, .int (v1 + 1))]) [2, 0] rfl ?_
          exact (wQ_readMonths_2 hl B n) v0 (v1 + 1) A7 h
        · refine xg_iconst (pc := 46) (v := 1) B dQ_readMonths_46 (by decide) ?_
          exact xg_zret B dQ_readMonths_47 h
      · refine xg_iconst (pc := 20) (v := 0) B dQ_readMonths_20 (by decide) ?_
        exact xg_zret B dQ_readMonths_21 h
theorem wQ_readMonths {l : Launch} (hl : l.stackTraces = false) {z : xj_F} (B : xj_B l yQ_readMonths prog_6_method_11_code 3 (some .boolean) [] 3 z) (v0 : xj_Rf) (A : xj_H) (h : fQ_readMonths v0 A = some (xf_r z)) : xj_W l z 0 [(0, xj_rv v0)] [] A := by
  unfold fQ_readMonths at h
  refine xg_iconst (pc := 0) (v := 0) B dQ_readMonths_0 (by decide) ?_
  refine xg_istore_n (pc := 1) (i := 1) (ls' := [(1, .int (0 : Int32)), (0, xj_rv v0)]) B dQ_readMonths_1 rfl (by decide) ⟨fun _ => xj_rv_cat v0, trivial⟩ rfl ?_
  refine xg_sub (ls' := [(0, xj_rv v0), (1, .int (0 : Int32))]) [1, 0] rfl ?_
  exact wQ_readMonths_2 hl B xj_fu v0 (0 : Int32) A h
theorem cQ_readMonths {l : Launch} (hl : l.stackTraces = false) (v0 : xj_Rf) (A : xj_H) (r : xj_R) (h : fQ_readMonths v0 A = some r) : xj_M l yQ_readMonths prog_6_method_11_code 3 (some .boolean) [] 3 [xj_rv v0] A r := by
  refine xj_M.of hl (by decide +kernel) (by simp [lg_sl, xj_ic, xj_lc, xj_rv_cat]) (fun z B hA hr => ?_)
  subst hr
  have hw := wQ_readMonths hl B v0 A h
  simpa [lv_args, xj_ic, xj_lc, xj_rv_cat] using hw
/-! RecurrenceBook$RuleReader.readPart()Z -/
def fQ_readPart_223 (s0 : Int32) (A : xj_H) : Option xj_R :=
  xj_rz s0 A
def fQ_readPart_222 (A : xj_H) : Option xj_R :=
  fQ_readPart_223 (0 : Int32) A
def fQ_readPart_191 (s0 : Int32) (A : xj_H) : Option xj_R :=
  xj_rz s0 A
def fQ_readPart_190 (A : xj_H) : Option xj_R :=
  fQ_readPart_191 (0 : Int32) A
def fQ_readPart_159 (s0 : Int32) (A : xj_H) : Option xj_R :=
  xj_rz s0 A
def fQ_readPart_158 (A : xj_H) : Option xj_R :=
  fQ_readPart_159 (0 : Int32) A
def fQ_readPart_127 (s0 : Int32) (A : xj_H) : Option xj_R :=
  xj_rz s0 A
def fQ_readPart_126 (A : xj_H) : Option xj_R :=
  fQ_readPart_127 (0 : Int32) A
def fQ_readPart_95 (s0 : Int32) (A : xj_H) : Option xj_R :=
  xj_rz s0 A
def fQ_readPart_94 (A : xj_H) : Option xj_R :=
  fQ_readPart_95 (0 : Int32) A
def fQ_readPart_63 (s0 : Int32) (A : xj_H) : Option xj_R :=
  xj_rz s0 A
def fQ_readPart_62 (A : xj_H) : Option xj_R :=
  fQ_readPart_63 (0 : Int32) A
def fQ_readPart_31 (s0 : Int32) (A : xj_H) : Option xj_R :=
  xj_rz s0 A
def fQ_readPart_30 (A : xj_H) : Option xj_R :=
  fQ_readPart_31 (0 : Int32) A
def fQ_readPart (v0 : xj_Rf) (A : xj_H) : Option xj_R :=
  xj_bi (xj_rq A v0 5 (fQ_takeWord v0 (some (.inr 105)) A)) fun x1 A2 =>
  if x1 = 0 then
    xj_bi (xj_rq A2 v0 5 (fQ_takeWord v0 (some (.inr 110)) A2)) fun x3 A4 =>
    if x3 = 0 then
      xj_bi (xj_rq A4 v0 5 (fQ_takeWord v0 (some (.inr 111)) A4)) fun x5 A6 =>
      if x5 = 0 then
        xj_bi (xj_rq A6 v0 5 (fQ_takeWord v0 (some (.inr 112)) A6)) fun x7 A8 =>
        if x7 = 0 then
          xj_bi (xj_rq A8 v0 5 (fQ_takeWord v0 (some (.inr 113)) A8)) fun x9 A10 =>
          if x9 = 0 then
            xj_bi (xj_rq A10 v0 5 (fQ_takeWord v0 (some (.inr 115)) A10)) fun x11 A12 =>
            if x11 = 0 then
              xj_bi (xj_rq A12 v0 5 (fQ_takeWord v0 (some (.inr 116)) A12)) fun x13 A14 =>
              if x13 = 0 then
                fQ_readPart_222  A14
              else
                (xj_gr A14 v0 5 3).bind fun x15 =>
                (xj_gi A14 x15 4 5).bind fun x16 =>
                if ¬ x16 = 0 then
                  fQ_readPart_222  A14
                else
                  xj_bi (xj_rq A14 v0 5 (fQ_readMonths v0 A14)) fun x17 A18 =>
                  if x17 = 0 then
                    fQ_readPart_222  A18
                  else
                    fQ_readPart_223 (1 : Int32) A18
            else
              (xj_gr A12 v0 5 3).bind fun x19 =>
              xj_bi (xj_rq A12 x19 4 (fR_hasNumbers x19 A12)) fun x20 A21 =>
              if ¬ x20 = 0 then
                fQ_readPart_190  A21
              else
                xj_bi (xj_rq A21 v0 5 (fQ_readNumbers v0 A21)) fun x22 A23 =>
                if x22 = 0 then
                  fQ_readPart_190  A23
                else
                  fQ_readPart_191 (1 : Int32) A23
          else
            (xj_gr A10 v0 5 3).bind fun x24 =>
            xj_bi (xj_rq A10 x24 4 (fR_hasWeekdays x24 A10)) fun x25 A26 =>
            if ¬ x25 = 0 then
              fQ_readPart_158  A26
            else
              xj_bi (xj_rq A26 v0 5 (fQ_readWeekdays v0 A26)) fun x27 A28 =>
              if x27 = 0 then
                fQ_readPart_158  A28
              else
                fQ_readPart_159 (1 : Int32) A28
        else
          (xj_gr A8 v0 5 3).bind fun x29 =>
          (xj_gi A8 x29 4 3).bind fun x30 =>
          if ¬ x30 = 0 then
            fQ_readPart_126  A8
          else
            xj_bi (xj_rq A8 v0 5 (fQ_readUntil v0 A8)) fun x31 A32 =>
            if x31 = 0 then
              fQ_readPart_126  A32
            else
              fQ_readPart_127 (1 : Int32) A32
      else
        (xj_gr A6 v0 5 3).bind fun x33 =>
        (xj_gi A6 x33 4 2).bind fun x34 =>
        if ¬ x34 = 0 then
          fQ_readPart_94  A6
        else
          xj_bi (xj_rq A6 v0 5 (fQ_readCount v0 A6)) fun x35 A36 =>
          if x35 = 0 then
            fQ_readPart_94  A36
          else
            fQ_readPart_95 (1 : Int32) A36
    else
      (xj_gr A4 v0 5 3).bind fun x37 =>
      (xj_gi A4 x37 4 1).bind fun x38 =>
      if ¬ x38 = 0 then
        fQ_readPart_62  A4
      else
        xj_bi (xj_rq A4 v0 5 (fQ_readInterval v0 A4)) fun x39 A40 =>
        if x39 = 0 then
          fQ_readPart_62  A40
        else
          fQ_readPart_63 (1 : Int32) A40
  else
    (xj_gr A2 v0 5 3).bind fun x41 =>
    (xj_gr A2 x41 4 0).bind fun x42 =>
    if ¬ x42 = none then
      fQ_readPart_30  A2
    else
      xj_bi (xj_rq A2 v0 5 (fQ_readFrequency v0 A2)) fun x43 A44 =>
      if x43 = 0 then
        fQ_readPart_30  A44
      else
        fQ_readPart_31 (1 : Int32) A44
theorem wQ_readPart_223 {l : Launch} (hl : l.stackTraces = false) {z : xj_F} (B : xj_B l yQ_readPart prog_6_method_3_code 1 (some .boolean) [] 8 z) (s0 : Int32) (A : xj_H) (h : fQ_readPart_223 s0 A = some (xf_r z)) : xj_W l z 223 [] [.int s0] A := by
  unfold fQ_readPart_223 at h
  exact xg_zret B dQ_readPart_223 h
theorem wQ_readPart_222 {l : Launch} (hl : l.stackTraces = false) {z : xj_F} (B : xj_B l yQ_readPart prog_6_method_3_code 1 (some .boolean) [] 8 z) (A : xj_H) (h : fQ_readPart_222  A = some (xf_r z)) : xj_W l z 222 [] [] A := by
  unfold fQ_readPart_222 at h
  refine xg_iconst (pc := 222) (v := 0) B dQ_readPart_222 (by decide) ?_
  exact wQ_readPart_223 hl B (0 : Int32) A h
theorem wQ_readPart_191 {l : Launch} (hl : l.stackTraces = false) {z : xj_F} (B : xj_B l yQ_readPart prog_6_method_3_code 1 (some .boolean) [] 8 z) (s0 : Int32) (A : xj_H) (h : fQ_readPart_191 s0 A = some (xf_r z)) : xj_W l z 191 [] [.int s0] A := by
  unfold fQ_readPart_191 at h
  exact xg_zret B dQ_readPart_191 h
theorem wQ_readPart_190 {l : Launch} (hl : l.stackTraces = false) {z : xj_F} (B : xj_B l yQ_readPart prog_6_method_3_code 1 (some .boolean) [] 8 z) (A : xj_H) (h : fQ_readPart_190  A = some (xf_r z)) : xj_W l z 190 [] [] A := by
  unfold fQ_readPart_190 at h
  refine xg_iconst (pc := 190) (v := 0) B dQ_readPart_190 (by decide) ?_
  exact wQ_readPart_191 hl B (0 : Int32) A h
theorem wQ_readPart_159 {l : Launch} (hl : l.stackTraces = false) {z : xj_F} (B : xj_B l yQ_readPart prog_6_method_3_code 1 (some .boolean) [] 8 z) (s0 : Int32) (A : xj_H) (h : fQ_readPart_159 s0 A = some (xf_r z)) : xj_W l z 159 [] [.int s0] A := by
  unfold fQ_readPart_159 at h
  exact xg_zret B dQ_readPart_159 h
theorem wQ_readPart_158 {l : Launch} (hl : l.stackTraces = false) {z : xj_F} (B : xj_B l yQ_readPart prog_6_method_3_code 1 (some .boolean) [] 8 z) (A : xj_H) (h : fQ_readPart_158  A = some (xf_r z)) : xj_W l z 158 [] [] A := by
  unfold fQ_readPart_158 at h
  refine xg_iconst (pc := 158) (v := 0) B dQ_readPart_158 (by decide) ?_
  exact wQ_readPart_159 hl B (0 : Int32) A h
theorem wQ_readPart_127 {l : Launch} (hl : l.stackTraces = false) {z : xj_F} (B : xj_B l yQ_readPart prog_6_method_3_code 1 (some .boolean) [] 8 z) (s0 : Int32) (A : xj_H) (h : fQ_readPart_127 s0 A = some (xf_r z)) : xj_W l z 127 [] [.int s0] A := by
  unfold fQ_readPart_127 at h
  exact xg_zret B dQ_readPart_127 h
theorem wQ_readPart_126 {l : Launch} (hl : l.stackTraces = false) {z : xj_F} (B : xj_B l yQ_readPart prog_6_method_3_code 1 (some .boolean) [] 8 z) (A : xj_H) (h : fQ_readPart_126  A = some (xf_r z)) : xj_W l z 126 [] [] A := by
  unfold fQ_readPart_126 at h
  refine xg_iconst (pc := 126) (v := 0) B dQ_readPart_126 (by decide) ?_
  exact wQ_readPart_127 hl B (0 : Int32) A h
theorem wQ_readPart_95 {l : Launch} (hl : l.stackTraces = false) {z : xj_F} (B : xj_B l yQ_readPart prog_6_method_3_code 1 (some .boolean) [] 8 z) (s0 : Int32) (A : xj_H) (h : fQ_readPart_95 s0 A = some (xf_r z)) : xj_W l z 95 [] [.int s0] A := by
  unfold fQ_readPart_95 at h
  exact xg_zret B dQ_readPart_95 h
theorem wQ_readPart_94 {l : Launch} (hl : l.stackTraces = false) {z : xj_F} (B : xj_B l yQ_readPart prog_6_method_3_code 1 (some .boolean) [] 8 z) (A : xj_H) (h : fQ_readPart_94  A = some (xf_r z)) : xj_W l z 94 [] [] A := by
  unfold fQ_readPart_94 at h
  refine xg_iconst (pc := 94) (v := 0) B dQ_readPart_94 (by decide) ?_
  exact wQ_readPart_95 hl B (0 : Int32) A h
theorem wQ_readPart_63 {l : Launch} (hl : l.stackTraces = false) {z : xj_F} (B : xj_B l yQ_readPart prog_6_method_3_code 1 (some .boolean) [] 8 z) (s0 : Int32) (A : xj_H) (h : fQ_readPart_63 s0 A = some (xf_r z)) : xj_W l z 63 [] [.int s0] A := by
  unfold fQ_readPart_63 at h
  exact xg_zret B dQ_readPart_63 h
theorem wQ_readPart_62 {l : Launch} (hl : l.stackTraces = false) {z : xj_F} (B : xj_B l yQ_readPart prog_6_method_3_code 1 (some .boolean) [] 8 z) (A : xj_H) (h : fQ_readPart_62  A = some (xf_r z)) : xj_W l z 62 [] [] A := by
  unfold fQ_readPart_62 at h
  refine xg_iconst (pc := 62) (v := 0) B dQ_readPart_62 (by decide) ?_
  exact wQ_readPart_63 hl B (0 : Int32) A h
theorem wQ_readPart_31 {l : Launch} (hl : l.stackTraces = false) {z : xj_F} (B : xj_B l yQ_readPart prog_6_method_3_code 1 (some .boolean) [] 8 z) (s0 : Int32) (A : xj_H) (h : fQ_readPart_31 s0 A = some (xf_r z)) : xj_W l z 31 [] [.int s0] A := by
  unfold fQ_readPart_31 at h
  exact xg_zret B dQ_readPart_31 h
theorem wQ_readPart_30 {l : Launch} (hl : l.stackTraces = false) {z : xj_F} (B : xj_B l yQ_readPart prog_6_method_3_code 1 (some .boolean) [] 8 z) (A : xj_H) (h : fQ_readPart_30  A = some (xf_r z)) : xj_W l z 30 [] [] A := by
  unfold fQ_readPart_30 at h
  refine xg_iconst (pc := 30) (v := 0) B dQ_readPart_30 (by decide) ?_
  exact wQ_readPart_31 hl B (0 : Int32) A h
theorem wQ_readPart {l : Launch} (hl : l.stackTraces = false) {z : xj_F} (B : xj_B l yQ_readPart prog_6_method_3_code 1 (some .boolean) [] 8 z) (v0 : xj_Rf) (A : xj_H) (h : fQ_readPart v0 A = some (xf_r z)) : xj_W l z 0 [(0, xj_rv v0)] [] A := by
  unfold fQ_readPart at h
  refine xg_aload_n (pc := 0) (i := 0) (r := v0) B dQ_readPart_0 rfl rfl ?_
  refine xg_ldcS (pc := 1) (i := 5) B dQ_readPart_1 ⟨_, List.mem_of_getElem? (i := 5) rfl⟩ ?_
  obtain ⟨hq3, h⟩ := xj_rq_i h
  refine xg_ci (pc := 3) (av := [xj_rv v0, xj_rv (some (.inr 105))]) (st := []) (cy := prog_6_method_16_code) (nLy := 3) (rety := (some .boolean)) (hsy := []) B dQ_readPart_3 (xj_go_v B dQ_readPart_3 vwQ_54 rfl hq3) (xj_vw_c vwQ_54) (xj_vw_i vwQ_54) (by decide) (by decide) (by decide) rfl (fun r9 h9 => cQ_takeWord hl _ _ _ r9 h9) h (fun x1 A2 eA2 h => ?_)
  refine xg_if_eq (pc := 6) (tgt := 32) B dQ_readPart_6 (by decide) h (fun c6 h => ?_) (fun c6 h => ?_)
  · refine xg_aload_n (pc := 32) (i := 0) (r := v0) B dQ_readPart_32 rfl rfl ?_
    refine xg_ldcS (pc := 33) (i := 10) B dQ_readPart_33 ⟨_, List.mem_of_getElem? (i := 10) rfl⟩ ?_
    obtain ⟨hq35, h⟩ := xj_rq_i h
    refine xg_ci (pc := 35) (av := [xj_rv v0, xj_rv (some (.inr 110))]) (st := []) (cy := prog_6_method_16_code) (nLy := 3) (rety := (some .boolean)) (hsy := []) B dQ_readPart_35 (xj_go_v B dQ_readPart_35 vwQ_54 rfl hq35) (xj_vw_c vwQ_54) (xj_vw_i vwQ_54) (by decide) (by decide) (by decide) rfl (fun r9 h9 => cQ_takeWord hl _ _ _ r9 h9) h (fun x3 A4 eA4 h => ?_)
    refine xg_if_eq (pc := 38) (tgt := 64) B dQ_readPart_38 (by decide) h (fun c38 h => ?_) (fun c38 h => ?_)
    · refine xg_aload_n (pc := 64) (i := 0) (r := v0) B dQ_readPart_64 rfl rfl ?_
      refine xg_ldcS (pc := 65) (i := 11) B dQ_readPart_65 ⟨_, List.mem_of_getElem? (i := 11) rfl⟩ ?_
      obtain ⟨hq67, h⟩ := xj_rq_i h
      refine xg_ci (pc := 67) (av := [xj_rv v0, xj_rv (some (.inr 111))]) (st := []) (cy := prog_6_method_16_code) (nLy := 3) (rety := (some .boolean)) (hsy := []) B dQ_readPart_67 (xj_go_v B dQ_readPart_67 vwQ_54 rfl hq67) (xj_vw_c vwQ_54) (xj_vw_i vwQ_54) (by decide) (by decide) (by decide) rfl (fun r9 h9 => cQ_takeWord hl _ _ _ r9 h9) h (fun x5 A6 eA6 h => ?_)
      refine xg_if_eq (pc := 70) (tgt := 96) B dQ_readPart_70 (by decide) h (fun c70 h => ?_) (fun c70 h => ?_)
      · refine xg_aload_n (pc := 96) (i := 0) (r := v0) B dQ_readPart_96 rfl rfl ?_
        refine xg_ldcS (pc := 97) (i := 12) B dQ_readPart_97 ⟨_, List.mem_of_getElem? (i := 12) rfl⟩ ?_
        obtain ⟨hq99, h⟩ := xj_rq_i h
        refine xg_ci (pc := 99) (av := [xj_rv v0, xj_rv (some (.inr 112))]) (st := []) (cy := prog_6_method_16_code) (nLy := 3) (rety := (some .boolean)) (hsy := []) B dQ_readPart_99 (xj_go_v B dQ_readPart_99 vwQ_54 rfl hq99) (xj_vw_c vwQ_54) (xj_vw_i vwQ_54) (by decide) (by decide) (by decide) rfl (fun r9 h9 => cQ_takeWord hl _ _ _ r9 h9) h (fun x7 A8 eA8 h => ?_)
        refine xg_if_eq (pc := 102) (tgt := 128) B dQ_readPart_102 (by decide) h (fun c102 h => ?_) (fun c102 h => ?_)
        · refine xg_aload_n (pc := 128) (i := 0) (r := v0) B dQ_readPart_128 rfl rfl ?_
          refine xg_ldcS (pc := 129) (i := 13) B dQ_readPart_129 ⟨_, List.mem_of_getElem? (i := 13) rfl⟩ ?_
          obtain ⟨hq131, h⟩ := xj_rq_i h
          refine xg_ci (pc := 131) (av := [xj_rv v0, xj_rv (some (.inr 113))]) (st := []) (cy := prog_6_method_16_code) (nLy := 3) (rety := (some .boolean)) (hsy := []) B dQ_readPart_131 (xj_go_v B dQ_readPart_131 vwQ_54 rfl hq131) (xj_vw_c vwQ_54) (xj_vw_i vwQ_54) (by decide) (by decide) (by decide) rfl (fun r9 h9 => cQ_takeWord hl _ _ _ r9 h9) h (fun x9 A10 eA10 h => ?_)
          refine xg_if_eq (pc := 134) (tgt := 160) B dQ_readPart_134 (by decide) h (fun c134 h => ?_) (fun c134 h => ?_)
          · refine xg_aload_n (pc := 160) (i := 0) (r := v0) B dQ_readPart_160 rfl rfl ?_
            refine xg_ldcS (pc := 161) (i := 15) B dQ_readPart_161 ⟨_, List.mem_of_getElem? (i := 15) rfl⟩ ?_
            obtain ⟨hq163, h⟩ := xj_rq_i h
            refine xg_ci (pc := 163) (av := [xj_rv v0, xj_rv (some (.inr 115))]) (st := []) (cy := prog_6_method_16_code) (nLy := 3) (rety := (some .boolean)) (hsy := []) B dQ_readPart_163 (xj_go_v B dQ_readPart_163 vwQ_54 rfl hq163) (xj_vw_c vwQ_54) (xj_vw_i vwQ_54) (by decide) (by decide) (by decide) rfl (fun r9 h9 => cQ_takeWord hl _ _ _ r9 h9) h (fun x11 A12 eA12 h => ?_)
            refine xg_if_eq (pc := 166) (tgt := 192) B dQ_readPart_166 (by decide) h (fun c166 h => ?_) (fun c166 h => ?_)
            · refine xg_aload_n (pc := 192) (i := 0) (r := v0) B dQ_readPart_192 rfl rfl ?_
              refine xg_ldcS (pc := 193) (i := 16) B dQ_readPart_193 ⟨_, List.mem_of_getElem? (i := 16) rfl⟩ ?_
              obtain ⟨hq195, h⟩ := xj_rq_i h
              refine xg_ci (pc := 195) (av := [xj_rv v0, xj_rv (some (.inr 116))]) (st := []) (cy := prog_6_method_16_code) (nLy := 3) (rety := (some .boolean)) (hsy := []) B dQ_readPart_195 (xj_go_v B dQ_readPart_195 vwQ_54 rfl hq195) (xj_vw_c vwQ_54) (xj_vw_i vwQ_54) (by decide) (by decide) (by decide) rfl (fun r9 h9 => cQ_takeWord hl _ _ _ r9 h9) h (fun x13 A14 eA14 h => ?_)
              refine xg_if_eq (pc := 198) (tgt := 222) B dQ_readPart_198 (by decide) h (fun c198 h => ?_) (fun c198 h => ?_)
              · refine xg_sub (ls' := []) [] rfl ?_
                exact wQ_readPart_222 hl B  A14 h
              · refine xg_aload_n (pc := 201) (i := 0) (r := v0) B dQ_readPart_201 rfl rfl ?_
                refine xg_getr (pc := 202) B dQ_readPart_202 flQ_25 h (fun x15 ex15 h => ?_)
                refine xg_geti (pc := 205) B dQ_readPart_205 flQ_101 h (fun x16 ex16 h => ?_)
                refine xg_if_ne (pc := 208) (tgt := 222) B dQ_readPart_208 (by decide) h (fun c208 h => ?_) (fun c208 h => ?_)
                · refine xg_sub (ls' := []) [] rfl ?_
                  exact wQ_readPart_222 hl B  A14 h
                · refine xg_aload_n (pc := 211) (i := 0) (r := v0) B dQ_readPart_211 rfl rfl ?_
                  obtain ⟨hq212, h⟩ := xj_rq_i h
                  refine xg_ci (pc := 212) (av := [xj_rv v0]) (st := []) (cy := prog_6_method_11_code) (nLy := 3) (rety := (some .boolean)) (hsy := []) B dQ_readPart_212 (xj_go_v B dQ_readPart_212 vwQ_104 rfl hq212) (xj_vw_c vwQ_104) (xj_vw_i vwQ_104) (by decide) (by decide) (by decide) rfl (fun r9 h9 => cQ_readMonths hl _ _ r9 h9) h (fun x17 A18 eA18 h => ?_)
                  refine xg_if_eq (pc := 215) (tgt := 222) B dQ_readPart_215 (by decide) h (fun c215 h => ?_) (fun c215 h => ?_)
                  · refine xg_sub (ls' := []) [] rfl ?_
                    exact wQ_readPart_222 hl B  A18 h
                  · refine xg_iconst (pc := 218) (v := 1) B dQ_readPart_218 (by decide) ?_
                    refine xg_goto (pc := 219) (tgt := 223) B dQ_readPart_219 (by decide) ?_
                    refine xg_sub (ls' := []) [] rfl ?_
                    exact wQ_readPart_223 hl B (1 : Int32) A18 h
            · refine xg_aload_n (pc := 169) (i := 0) (r := v0) B dQ_readPart_169 rfl rfl ?_
              refine xg_getr (pc := 170) B dQ_readPart_170 flQ_25 h (fun x19 ex19 h => ?_)
              obtain ⟨hq173, h⟩ := xj_rq_i h
              refine xg_ci (pc := 173) (av := [xj_rv x19]) (st := []) (cy := prog_5_method_7_code) (nLy := 1) (rety := (some .boolean)) (hsy := []) B dQ_readPart_173 (xj_go_v B dQ_readPart_173 vwQ_93 rfl hq173) (xj_vw_c vwQ_93) (xj_vw_i vwQ_93) (by decide) (by decide) (by decide) rfl (fun r9 h9 => cR_hasNumbers hl _ _ r9 h9) h (fun x20 A21 eA21 h => ?_)
              refine xg_if_ne (pc := 176) (tgt := 190) B dQ_readPart_176 (by decide) h (fun c176 h => ?_) (fun c176 h => ?_)
              · refine xg_sub (ls' := []) [] rfl ?_
                exact wQ_readPart_190 hl B  A21 h
              · refine xg_aload_n (pc := 179) (i := 0) (r := v0) B dQ_readPart_179 rfl rfl ?_
                obtain ⟨hq180, h⟩ := xj_rq_i h
                refine xg_ci (pc := 180) (av := [xj_rv v0]) (st := []) (cy := prog_6_method_10_code) (nLy := 4) (rety := (some .boolean)) (hsy := []) B dQ_readPart_180 (xj_go_v B dQ_readPart_180 vwQ_96 rfl hq180) (xj_vw_c vwQ_96) (xj_vw_i vwQ_96) (by decide) (by decide) (by decide) rfl (fun r9 h9 => cQ_readNumbers hl _ _ r9 h9) h (fun x22 A23 eA23 h => ?_)
                refine xg_if_eq (pc := 183) (tgt := 190) B dQ_readPart_183 (by decide) h (fun c183 h => ?_) (fun c183 h => ?_)
                · refine xg_sub (ls' := []) [] rfl ?_
                  exact wQ_readPart_190 hl B  A23 h
                · refine xg_iconst (pc := 186) (v := 1) B dQ_readPart_186 (by decide) ?_
                  refine xg_goto (pc := 187) (tgt := 191) B dQ_readPart_187 (by decide) ?_
                  refine xg_sub (ls' := []) [] rfl ?_
                  exact wQ_readPart_191 hl B (1 : Int32) A23 h
          · refine xg_aload_n (pc := 137) (i := 0) (r := v0) B dQ_readPart_137 rfl rfl ?_
            refine xg_getr (pc := 138) B dQ_readPart_138 flQ_25 h (fun x24 ex24 h => ?_)
            obtain ⟨hq141, h⟩ := xj_rq_i h
            refine xg_ci (pc := 141) (av := [xj_rv x24]) (st := []) (cy := prog_5_method_6_code) (nLy := 1) (rety := (some .boolean)) (hsy := []) B dQ_readPart_141 (xj_go_v B dQ_readPart_141 vwQ_85 rfl hq141) (xj_vw_c vwQ_85) (xj_vw_i vwQ_85) (by decide) (by decide) (by decide) rfl (fun r9 h9 => cR_hasWeekdays hl _ _ r9 h9) h (fun x25 A26 eA26 h => ?_)
            refine xg_if_ne (pc := 144) (tgt := 158) B dQ_readPart_144 (by decide) h (fun c144 h => ?_) (fun c144 h => ?_)
            · refine xg_sub (ls' := []) [] rfl ?_
              exact wQ_readPart_158 hl B  A26 h
            · refine xg_aload_n (pc := 147) (i := 0) (r := v0) B dQ_readPart_147 rfl rfl ?_
              obtain ⟨hq148, h⟩ := xj_rq_i h
              refine xg_ci (pc := 148) (av := [xj_rv v0]) (st := []) (cy := prog_6_method_8_code) (nLy := 2) (rety := (some .boolean)) (hsy := []) B dQ_readPart_148 (xj_go_v B dQ_readPart_148 vwQ_88 rfl hq148) (xj_vw_c vwQ_88) (xj_vw_i vwQ_88) (by decide) (by decide) (by decide) rfl (fun r9 h9 => cQ_readWeekdays hl _ _ r9 h9) h (fun x27 A28 eA28 h => ?_)
              refine xg_if_eq (pc := 151) (tgt := 158) B dQ_readPart_151 (by decide) h (fun c151 h => ?_) (fun c151 h => ?_)
              · refine xg_sub (ls' := []) [] rfl ?_
                exact wQ_readPart_158 hl B  A28 h
              · refine xg_iconst (pc := 154) (v := 1) B dQ_readPart_154 (by decide) ?_
                refine xg_goto (pc := 155) (tgt := 159) B dQ_readPart_155 (by decide) ?_
                refine xg_sub (ls' := []) [] rfl ?_
                exact wQ_readPart_159 hl B (1 : Int32) A28 h
        · refine xg_aload_n (pc := 105) (i := 0) (r := v0) B dQ_readPart_105 rfl rfl ?_
          refine xg_getr (pc := 106) B dQ_readPart_106 flQ_25 h (fun x29 ex29 h => ?_)
          refine xg_geti (pc := 109) B dQ_readPart_109 flQ_76 h (fun x30 ex30 h => ?_)
          refine xg_if_ne (pc := 112) (tgt := 126) B dQ_readPart_112 (by decide) h (fun c112 h => ?_) (fun c112 h => ?_)
          · refine xg_sub (ls' := []) [] rfl ?_
            exact wQ_readPart_126 hl B  A8 h
          · refine xg_aload_n (pc := 115) (i := 0) (r := v0) B dQ_readPart_115 rfl rfl ?_
            obtain ⟨hq116, h⟩ := xj_rq_i h
            refine xg_ci (pc := 116) (av := [xj_rv v0]) (st := []) (cy := prog_6_method_7_code) (nLy := 4) (rety := (some .boolean)) (hsy := []) B dQ_readPart_116 (xj_go_v B dQ_readPart_116 vwQ_80 rfl hq116) (xj_vw_c vwQ_80) (xj_vw_i vwQ_80) (by decide) (by decide) (by decide) rfl (fun r9 h9 => cQ_readUntil hl _ _ r9 h9) h (fun x31 A32 eA32 h => ?_)
            refine xg_if_eq (pc := 119) (tgt := 126) B dQ_readPart_119 (by decide) h (fun c119 h => ?_) (fun c119 h => ?_)
            · refine xg_sub (ls' := []) [] rfl ?_
              exact wQ_readPart_126 hl B  A32 h
            · refine xg_iconst (pc := 122) (v := 1) B dQ_readPart_122 (by decide) ?_
              refine xg_goto (pc := 123) (tgt := 127) B dQ_readPart_123 (by decide) ?_
              refine xg_sub (ls' := []) [] rfl ?_
              exact wQ_readPart_127 hl B (1 : Int32) A32 h
      · refine xg_aload_n (pc := 73) (i := 0) (r := v0) B dQ_readPart_73 rfl rfl ?_
        refine xg_getr (pc := 74) B dQ_readPart_74 flQ_25 h (fun x33 ex33 h => ?_)
        refine xg_geti (pc := 77) B dQ_readPart_77 flQ_38 h (fun x34 ex34 h => ?_)
        refine xg_if_ne (pc := 80) (tgt := 94) B dQ_readPart_80 (by decide) h (fun c80 h => ?_) (fun c80 h => ?_)
        · refine xg_sub (ls' := []) [] rfl ?_
          exact wQ_readPart_94 hl B  A6 h
        · refine xg_aload_n (pc := 83) (i := 0) (r := v0) B dQ_readPart_83 rfl rfl ?_
          obtain ⟨hq84, h⟩ := xj_rq_i h
          refine xg_ci (pc := 84) (av := [xj_rv v0]) (st := []) (cy := prog_6_method_6_code) (nLy := 1) (rety := (some .boolean)) (hsy := []) B dQ_readPart_84 (xj_go_v B dQ_readPart_84 vwQ_71 rfl hq84) (xj_vw_c vwQ_71) (xj_vw_i vwQ_71) (by decide) (by decide) (by decide) rfl (fun r9 h9 => cQ_readCount hl _ _ r9 h9) h (fun x35 A36 eA36 h => ?_)
          refine xg_if_eq (pc := 87) (tgt := 94) B dQ_readPart_87 (by decide) h (fun c87 h => ?_) (fun c87 h => ?_)
          · refine xg_sub (ls' := []) [] rfl ?_
            exact wQ_readPart_94 hl B  A36 h
          · refine xg_iconst (pc := 90) (v := 1) B dQ_readPart_90 (by decide) ?_
            refine xg_goto (pc := 91) (tgt := 95) B dQ_readPart_91 (by decide) ?_
            refine xg_sub (ls' := []) [] rfl ?_
            exact wQ_readPart_95 hl B (1 : Int32) A36 h
    · refine xg_aload_n (pc := 41) (i := 0) (r := v0) B dQ_readPart_41 rfl rfl ?_
      refine xg_getr (pc := 42) B dQ_readPart_42 flQ_25 h (fun x37 ex37 h => ?_)
      refine xg_geti (pc := 45) B dQ_readPart_45 flQ_63 h (fun x38 ex38 h => ?_)
      refine xg_if_ne (pc := 48) (tgt := 62) B dQ_readPart_48 (by decide) h (fun c48 h => ?_) (fun c48 h => ?_)
      · refine xg_sub (ls' := []) [] rfl ?_
        exact wQ_readPart_62 hl B  A4 h
      · refine xg_aload_n (pc := 51) (i := 0) (r := v0) B dQ_readPart_51 rfl rfl ?_
        obtain ⟨hq52, h⟩ := xj_rq_i h
        refine xg_ci (pc := 52) (av := [xj_rv v0]) (st := []) (cy := prog_6_method_5_code) (nLy := 1) (rety := (some .boolean)) (hsy := []) B dQ_readPart_52 (xj_go_v B dQ_readPart_52 vwQ_66 rfl hq52) (xj_vw_c vwQ_66) (xj_vw_i vwQ_66) (by decide) (by decide) (by decide) rfl (fun r9 h9 => cQ_readInterval hl _ _ r9 h9) h (fun x39 A40 eA40 h => ?_)
        refine xg_if_eq (pc := 55) (tgt := 62) B dQ_readPart_55 (by decide) h (fun c55 h => ?_) (fun c55 h => ?_)
        · refine xg_sub (ls' := []) [] rfl ?_
          exact wQ_readPart_62 hl B  A40 h
        · refine xg_iconst (pc := 58) (v := 1) B dQ_readPart_58 (by decide) ?_
          refine xg_goto (pc := 59) (tgt := 63) B dQ_readPart_59 (by decide) ?_
          refine xg_sub (ls' := []) [] rfl ?_
          exact wQ_readPart_63 hl B (1 : Int32) A40 h
  · refine xg_aload_n (pc := 9) (i := 0) (r := v0) B dQ_readPart_9 rfl rfl ?_
    refine xg_getr (pc := 10) B dQ_readPart_10 flQ_25 h (fun x41 ex41 h => ?_)
    refine xg_getr (pc := 13) B dQ_readPart_13 flQ_35 h (fun x42 ex42 h => ?_)
    refine xg_ifnonnull (pc := 16) (tgt := 30) B dQ_readPart_16 (by decide) h (fun c16 h => ?_) (fun c16 h => ?_)
    · refine xg_sub (ls' := []) [] rfl ?_
      exact wQ_readPart_30 hl B  A2 h
    · refine xg_aload_n (pc := 19) (i := 0) (r := v0) B dQ_readPart_19 rfl rfl ?_
      obtain ⟨hq20, h⟩ := xj_rq_i h
      refine xg_ci (pc := 20) (av := [xj_rv v0]) (st := []) (cy := prog_6_method_4_code) (nLy := 1) (rety := (some .boolean)) (hsy := []) B dQ_readPart_20 (xj_go_v B dQ_readPart_20 vwQ_58 rfl hq20) (xj_vw_c vwQ_58) (xj_vw_i vwQ_58) (by decide) (by decide) (by decide) rfl (fun r9 h9 => cQ_readFrequency hl _ _ r9 h9) h (fun x43 A44 eA44 h => ?_)
      refine xg_if_eq (pc := 23) (tgt := 30) B dQ_readPart_23 (by decide) h (fun c23 h => ?_) (fun c23 h => ?_)
      · refine xg_sub (ls' := []) [] rfl ?_
        exact wQ_readPart_30 hl B  A44 h
      · refine xg_iconst (pc := 26) (v := 1) B dQ_readPart_26 (by decide) ?_
        refine xg_goto (pc := 27) (tgt := 31) B dQ_readPart_27 (by decide) ?_
        refine xg_sub (ls' := []) [] rfl ?_
        exact wQ_readPart_31 hl B (1 : Int32) A44 h
theorem cQ_readPart {l : Launch} (hl : l.stackTraces = false) (v0 : xj_Rf) (A : xj_H) (r : xj_R) (h : fQ_readPart v0 A = some r) : xj_M l yQ_readPart prog_6_method_3_code 1 (some .boolean) [] 8 [xj_rv v0] A r := by
  refine xj_M.of hl (by decide +kernel) (by simp [lg_sl, xj_ic, xj_lc, xj_rv_cat]) (fun z B hA hr => ?_)
  subst hr
  have hw := wQ_readPart hl B v0 A h
  simpa [lv_args, xj_ic, xj_lc, xj_rv_cat] using hw
/-! RecurrenceBook$Rule.hasNthWeekdays()Z -/
def fR_hasNthWeekdays_19 (s0 : Int32) (A : xj_H) : Option xj_R :=
  xj_rz s0 A
def fR_hasNthWeekdays (v0 : xj_Rf) (A : xj_H) : Option xj_R :=
  (xj_gl A v0 4 9).bind fun x1 =>
  (xj_gl A v0 4 10).bind fun x2 =>
  if (lg_cmp (x1 ||| x2) (0 : Int64)) = 0 then
    fR_hasNthWeekdays_19 (0 : Int32) A
  else
    fR_hasNthWeekdays_19 (1 : Int32) A
theorem wR_hasNthWeekdays_19 {l : Launch} (hl : l.stackTraces = false) {z : xj_F} (B : xj_B l yR_hasNthWeekdays prog_5_method_5_code 1 (some .boolean) [] 1 z) (s0 : Int32) (A : xj_H) (h : fR_hasNthWeekdays_19 s0 A = some (xf_r z)) : xj_W l z 19 [] [.int s0] A := by
  unfold fR_hasNthWeekdays_19 at h
  exact xg_zret B dR_hasNthWeekdays_19 h
theorem wR_hasNthWeekdays {l : Launch} (hl : l.stackTraces = false) {z : xj_F} (B : xj_B l yR_hasNthWeekdays prog_5_method_5_code 1 (some .boolean) [] 1 z) (v0 : xj_Rf) (A : xj_H) (h : fR_hasNthWeekdays v0 A = some (xf_r z)) : xj_W l z 0 [(0, xj_rv v0)] [] A := by
  unfold fR_hasNthWeekdays at h
  refine xg_aload_n (pc := 0) (i := 0) (r := v0) B dR_hasNthWeekdays_0 rfl rfl ?_
  refine xg_getl (pc := 1) B dR_hasNthWeekdays_1 flR_37 h (fun x1 ex1 h => ?_)
  refine xg_aload_n (pc := 4) (i := 0) (r := v0) B dR_hasNthWeekdays_4 rfl rfl ?_
  refine xg_getl (pc := 5) B dR_hasNthWeekdays_5 flR_29 h (fun x2 ex2 h => ?_)
  refine xg_lor (pc := 8) B dR_hasNthWeekdays_8 ?_
  refine xg_lconst (pc := 9) (v := 0) B dR_hasNthWeekdays_9 (by decide) ?_
  refine xg_lcmp (pc := 10) B dR_hasNthWeekdays_10 ?_
  refine xg_if_eq (pc := 11) (tgt := 18) B dR_hasNthWeekdays_11 (by decide) h (fun c11 h => ?_) (fun c11 h => ?_)
  · refine xg_iconst (pc := 18) (v := 0) B dR_hasNthWeekdays_18 (by decide) ?_
    refine xg_sub (ls' := []) [] rfl ?_
    exact wR_hasNthWeekdays_19 hl B (0 : Int32) A h
  · refine xg_iconst (pc := 14) (v := 1) B dR_hasNthWeekdays_14 (by decide) ?_
    refine xg_goto (pc := 15) (tgt := 19) B dR_hasNthWeekdays_15 (by decide) ?_
    refine xg_sub (ls' := []) [] rfl ?_
    exact wR_hasNthWeekdays_19 hl B (1 : Int32) A h
theorem cR_hasNthWeekdays {l : Launch} (hl : l.stackTraces = false) (v0 : xj_Rf) (A : xj_H) (r : xj_R) (h : fR_hasNthWeekdays v0 A = some r) : xj_M l yR_hasNthWeekdays prog_5_method_5_code 1 (some .boolean) [] 1 [xj_rv v0] A r := by
  refine xj_M.of hl (by decide +kernel) (by simp [lg_sl, xj_ic, xj_lc, xj_rv_cat]) (fun z B hA hr => ?_)
  subst hr
  have hw := wR_hasNthWeekdays hl B v0 A h
  simpa [lv_args, xj_ic, xj_lc, xj_rv_cat] using hw
/-! RecurrenceBook$Rule.isAllowed()Z -/
def fR_isAllowed_84 (s0 : Int32) (A : xj_H) : Option xj_R :=
  xj_rz s0 A
def fR_isAllowed_79 (A : xj_H) : Option xj_R :=
  fR_isAllowed_84 (1 : Int32) A
def fR_isAllowed_67 (v0 : xj_Rf) (s0 : Int32) (A : xj_H) : Option xj_R :=
  if ¬ s0 = 0 then
    fR_isAllowed_79  A
  else
    xj_bi (xj_rq A v0 4 (fR_hasNthWeekdays v0 A)) fun x1 A2 =>
    if ¬ x1 = 0 then
      fR_isAllowed_84 (0 : Int32) A2
    else
      fR_isAllowed_79  A2
def fR_isAllowed_62 (v0 : xj_Rf) (A : xj_H) : Option xj_R :=
  fR_isAllowed_67 v0 (1 : Int32) A
def fR_isAllowed_42 (v0 : xj_Rf) (A : xj_H) : Option xj_R :=
  (xj_gr A v0 4 0).bind fun x1 =>
  if xj_e4 x1 && xj_e4 (some (.inr 2)) then
  if x1 = (some (.inr 2)) then
    fR_isAllowed_62 v0 A
  else
    (xj_gr A v0 4 0).bind fun x2 =>
    if xj_e4 x2 && xj_e4 (some (.inr 3)) then
    if ¬ x2 = (some (.inr 3)) then
      fR_isAllowed_67 v0 (0 : Int32) A
    else
      fR_isAllowed_62 v0 A
    else none
  else none
def fR_isAllowed_23 (v0 : xj_Rf) (A : xj_H) : Option xj_R :=
  (xj_gr A v0 4 0).bind fun x1 =>
  if xj_e4 x1 && xj_e4 (some (.inr 1)) then
  if ¬ x1 = (some (.inr 1)) then
    fR_isAllowed_42 v0 A
  else
    xj_bi (xj_rq A v0 4 (fR_hasNumbers v0 A)) fun x2 A3 =>
    if x2 = 0 then
      fR_isAllowed_42 v0 A3
    else
      xj_rz (0 : Int32) A3
  else none
def fR_isAllowed_21 (A : xj_H) : Option xj_R :=
  xj_rz (0 : Int32) A
def fR_isAllowed (v0 : xj_Rf) (A : xj_H) : Option xj_R :=
  (xj_gr A v0 4 0).bind fun x1 =>
  if x1 = none then
    fR_isAllowed_21  A
  else
    (xj_gi A v0 4 2).bind fun x2 =>
    if x2 = 0 then
      fR_isAllowed_23 v0 A
    else
      (xj_gi A v0 4 3).bind fun x3 =>
      if x3 = 0 then
        fR_isAllowed_23 v0 A
      else
        fR_isAllowed_21  A
theorem wR_isAllowed_84 {l : Launch} (hl : l.stackTraces = false) {z : xj_F} (B : xj_B l yR_isAllowed prog_5_method_11_code 2 (some .boolean) [] 2 z) (s0 : Int32) (A : xj_H) (h : fR_isAllowed_84 s0 A = some (xf_r z)) : xj_W l z 84 [] [.int s0] A := by
  unfold fR_isAllowed_84 at h
  exact xg_zret B dR_isAllowed_84 h
theorem wR_isAllowed_79 {l : Launch} (hl : l.stackTraces = false) {z : xj_F} (B : xj_B l yR_isAllowed prog_5_method_11_code 2 (some .boolean) [] 2 z) (A : xj_H) (h : fR_isAllowed_79  A = some (xf_r z)) : xj_W l z 79 [] [] A := by
  unfold fR_isAllowed_79 at h
  refine xg_iconst (pc := 79) (v := 1) B dR_isAllowed_79 (by decide) ?_
  refine xg_goto (pc := 80) (tgt := 84) B dR_isAllowed_80 (by decide) ?_
  exact wR_isAllowed_84 hl B (1 : Int32) A h
theorem wR_isAllowed_67 {l : Launch} (hl : l.stackTraces = false) {z : xj_F} (B : xj_B l yR_isAllowed prog_5_method_11_code 2 (some .boolean) [] 2 z) (v0 : xj_Rf) (s0 : Int32) (A : xj_H) (h : fR_isAllowed_67 v0 s0 A = some (xf_r z)) : xj_W l z 67 [(0, xj_rv v0)] [.int s0] A := by
  unfold fR_isAllowed_67 at h
  refine xg_istore_n (pc := 67) (i := 1) (ls' := [(1, .int s0), (0, xj_rv v0)]) B dR_isAllowed_67 rfl (by decide) ⟨fun _ => xj_rv_cat v0, trivial⟩ rfl ?_
  refine xg_iload_n (pc := 68) (i := 1) B dR_isAllowed_68 rfl rfl ?_
  refine xg_if_ne (pc := 69) (tgt := 79) B dR_isAllowed_69 (by decide) h (fun c69 h => ?_) (fun c69 h => ?_)
  · refine xg_sub (ls' := []) [] rfl ?_
    exact wR_isAllowed_79 hl B  A h
  · refine xg_aload_n (pc := 72) (i := 0) (r := v0) B dR_isAllowed_72 rfl rfl ?_
    obtain ⟨hq73, h⟩ := xj_rq_i h
    refine xg_ci (pc := 73) (av := [xj_rv v0]) (st := []) (cy := prog_5_method_5_code) (nLy := 1) (rety := (some .boolean)) (hsy := []) B dR_isAllowed_73 (xj_go_v B dR_isAllowed_73 vwR_68 rfl hq73) (xj_vw_c vwR_68) (xj_vw_i vwR_68) (by decide) (by decide) (by decide) rfl (fun r9 h9 => cR_hasNthWeekdays hl _ _ r9 h9) h (fun x1 A2 eA2 h => ?_)
    refine xg_if_ne (pc := 76) (tgt := 83) B dR_isAllowed_76 (by decide) h (fun c76 h => ?_) (fun c76 h => ?_)
    · refine xg_iconst (pc := 83) (v := 0) B dR_isAllowed_83 (by decide) ?_
      refine xg_sub (ls' := []) [] rfl ?_
      exact wR_isAllowed_84 hl B (0 : Int32) A2 h
    · refine xg_sub (ls' := []) [] rfl ?_
      exact wR_isAllowed_79 hl B  A2 h
theorem wR_isAllowed_62 {l : Launch} (hl : l.stackTraces = false) {z : xj_F} (B : xj_B l yR_isAllowed prog_5_method_11_code 2 (some .boolean) [] 2 z) (v0 : xj_Rf) (A : xj_H) (h : fR_isAllowed_62 v0 A = some (xf_r z)) : xj_W l z 62 [(0, xj_rv v0)] [] A := by
  unfold fR_isAllowed_62 at h
  refine xg_iconst (pc := 62) (v := 1) B dR_isAllowed_62 (by decide) ?_
  refine xg_goto (pc := 63) (tgt := 67) B dR_isAllowed_63 (by decide) ?_
  exact wR_isAllowed_67 hl B v0 (1 : Int32) A h
theorem wR_isAllowed_42 {l : Launch} (hl : l.stackTraces = false) {z : xj_F} (B : xj_B l yR_isAllowed prog_5_method_11_code 2 (some .boolean) [] 2 z) (v0 : xj_Rf) (A : xj_H) (h : fR_isAllowed_42 v0 A = some (xf_r z)) : xj_W l z 42 [(0, xj_rv v0)] [] A := by
  unfold fR_isAllowed_42 at h
  refine xg_aload_n (pc := 42) (i := 0) (r := v0) B dR_isAllowed_42 rfl rfl ?_
  refine xg_getr (pc := 43) B dR_isAllowed_43 flR_9 h (fun x1 ex1 h => ?_)
  refine xg_gete (pc := 46) (i := 2) B dR_isAllowed_46 (by decide) gsR_62 ?_
  refine xg_acmp_eq (pc := 49) (tgt := 62) B dR_isAllowed_49 (by decide) h (fun c49 h => ?_) (fun c49 h => ?_)
  · exact wR_isAllowed_62 hl B v0 A h
  · refine xg_aload_n (pc := 52) (i := 0) (r := v0) B dR_isAllowed_52 rfl rfl ?_
    refine xg_getr (pc := 53) B dR_isAllowed_53 flR_9 h (fun x2 ex2 h => ?_)
    refine xg_gete (pc := 56) (i := 3) B dR_isAllowed_56 (by decide) gsR_65 ?_
    refine xg_acmp_ne (pc := 59) (tgt := 66) B dR_isAllowed_59 (by decide) h (fun c59 h => ?_) (fun c59 h => ?_)
    · refine xg_iconst (pc := 66) (v := 0) B dR_isAllowed_66 (by decide) ?_
      exact wR_isAllowed_67 hl B v0 (0 : Int32) A h
    · exact wR_isAllowed_62 hl B v0 A h
theorem wR_isAllowed_23 {l : Launch} (hl : l.stackTraces = false) {z : xj_F} (B : xj_B l yR_isAllowed prog_5_method_11_code 2 (some .boolean) [] 2 z) (v0 : xj_Rf) (A : xj_H) (h : fR_isAllowed_23 v0 A = some (xf_r z)) : xj_W l z 23 [(0, xj_rv v0)] [] A := by
  unfold fR_isAllowed_23 at h
  refine xg_aload_n (pc := 23) (i := 0) (r := v0) B dR_isAllowed_23 rfl rfl ?_
  refine xg_getr (pc := 24) B dR_isAllowed_24 flR_9 h (fun x1 ex1 h => ?_)
  refine xg_gete (pc := 27) (i := 1) B dR_isAllowed_27 (by decide) gsR_57 ?_
  refine xg_acmp_ne (pc := 30) (tgt := 42) B dR_isAllowed_30 (by decide) h (fun c30 h => ?_) (fun c30 h => ?_)
  · exact wR_isAllowed_42 hl B v0 A h
  · refine xg_aload_n (pc := 33) (i := 0) (r := v0) B dR_isAllowed_33 rfl rfl ?_
    obtain ⟨hq34, h⟩ := xj_rq_i h
    refine xg_ci (pc := 34) (av := [xj_rv v0]) (st := []) (cy := prog_5_method_7_code) (nLy := 1) (rety := (some .boolean)) (hsy := []) B dR_isAllowed_34 (xj_go_v B dR_isAllowed_34 vwR_43 rfl hq34) (xj_vw_c vwR_43) (xj_vw_i vwR_43) (by decide) (by decide) (by decide) rfl (fun r9 h9 => cR_hasNumbers hl _ _ r9 h9) h (fun x2 A3 eA3 h => ?_)
    refine xg_if_eq (pc := 37) (tgt := 42) B dR_isAllowed_37 (by decide) h (fun c37 h => ?_) (fun c37 h => ?_)
    · exact wR_isAllowed_42 hl B v0 A3 h
    · refine xg_iconst (pc := 40) (v := 0) B dR_isAllowed_40 (by decide) ?_
      exact xg_zret B dR_isAllowed_41 h
theorem wR_isAllowed_21 {l : Launch} (hl : l.stackTraces = false) {z : xj_F} (B : xj_B l yR_isAllowed prog_5_method_11_code 2 (some .boolean) [] 2 z) (A : xj_H) (h : fR_isAllowed_21  A = some (xf_r z)) : xj_W l z 21 [] [] A := by
  unfold fR_isAllowed_21 at h
  refine xg_iconst (pc := 21) (v := 0) B dR_isAllowed_21 (by decide) ?_
  exact xg_zret B dR_isAllowed_22 h
theorem wR_isAllowed {l : Launch} (hl : l.stackTraces = false) {z : xj_F} (B : xj_B l yR_isAllowed prog_5_method_11_code 2 (some .boolean) [] 2 z) (v0 : xj_Rf) (A : xj_H) (h : fR_isAllowed v0 A = some (xf_r z)) : xj_W l z 0 [(0, xj_rv v0)] [] A := by
  unfold fR_isAllowed at h
  refine xg_aload_n (pc := 0) (i := 0) (r := v0) B dR_isAllowed_0 rfl rfl ?_
  refine xg_getr (pc := 1) B dR_isAllowed_1 flR_9 h (fun x1 ex1 h => ?_)
  refine xg_ifnull (pc := 4) (tgt := 21) B dR_isAllowed_4 (by decide) h (fun c4 h => ?_) (fun c4 h => ?_)
  · refine xg_sub (ls' := []) [] rfl ?_
    exact wR_isAllowed_21 hl B  A h
  · refine xg_aload_n (pc := 7) (i := 0) (r := v0) B dR_isAllowed_7 rfl rfl ?_
    refine xg_geti (pc := 8) B dR_isAllowed_8 flR_50 h (fun x2 ex2 h => ?_)
    refine xg_if_eq (pc := 11) (tgt := 23) B dR_isAllowed_11 (by decide) h (fun c11 h => ?_) (fun c11 h => ?_)
    · exact wR_isAllowed_23 hl B v0 A h
    · refine xg_aload_n (pc := 14) (i := 0) (r := v0) B dR_isAllowed_14 rfl rfl ?_
      refine xg_geti (pc := 15) B dR_isAllowed_15 flR_53 h (fun x3 ex3 h => ?_)
      refine xg_if_eq (pc := 18) (tgt := 23) B dR_isAllowed_18 (by decide) h (fun c18 h => ?_) (fun c18 h => ?_)
      · exact wR_isAllowed_23 hl B v0 A h
      · refine xg_sub (ls' := []) [] rfl ?_
        exact wR_isAllowed_21 hl B  A h
theorem cR_isAllowed {l : Launch} (hl : l.stackTraces = false) (v0 : xj_Rf) (A : xj_H) (r : xj_R) (h : fR_isAllowed v0 A = some r) : xj_M l yR_isAllowed prog_5_method_11_code 2 (some .boolean) [] 2 [xj_rv v0] A r := by
  refine xj_M.of hl (by decide +kernel) (by simp [lg_sl, xj_ic, xj_lc, xj_rv_cat]) (fun z B hA hr => ?_)
  subst hr
  have hw := wR_isAllowed hl B v0 A h
  simpa [lv_args, xj_ic, xj_lc, xj_rv_cat] using hw

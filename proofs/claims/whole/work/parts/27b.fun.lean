/-! RecurrenceBookModel.readUntil()Z -/
def fM_readUntil (v0 : xj_Rf) (A : xj_H) : Option xj_R :=
  (xj_gi A v0 7 14).bind fun x1 =>
  xj_bi (xj_rq A v0 7 (fM_digits v0 (8 : Int32) A)) fun x2 A3 =>
  (xj_gi A3 v0 7 14).bind fun x4 =>
  if (x4 - x1) = (8 : Int32) then
    xj_bi (fM_isDate ((x2 / (10000 : Int32)) - (2000 : Int32)) ((x2 / (100 : Int32)) % (100 : Int32)) (x2 % (100 : Int32)) A3) fun x5 A6 =>
    if ¬ x5 = 0 then
      xj_bi (fM_dayOf ((x2 / (10000 : Int32)) - (2000 : Int32)) ((x2 / (100 : Int32)) % (100 : Int32)) (x2 % (100 : Int32)) A6) fun x7 A8 =>
      (xj_pv A8 v0 7 18 (.int x7)).bind fun A9 =>
      xj_rz (1 : Int32) A9
    else
      xj_rz (0 : Int32) A6
  else
    xj_rz (0 : Int32) A3
theorem wM_readUntil {l : Launch} (hl : l.stackTraces = false) {z : xj_F} (B : xj_B l yM_readUntil prog_11_method_24_code 6 (some .boolean) [] 3 z) (v0 : xj_Rf) (A : xj_H) (h : fM_readUntil v0 A = some (xf_r z)) : xj_W l z 0 [(0, xj_rv v0)] [] A := by
  unfold fM_readUntil at h
  refine xg_aload_n (pc := 0) (i := 0) (r := v0) B dM_readUntil_0 rfl rfl ?_
  refine xg_geti (pc := 1) B dM_readUntil_1 flM_115 h (fun x1 ex1 h => ?_)
  refine xg_istore_n (pc := 4) (i := 1) (ls' := [(1, .int x1), (0, xj_rv v0)]) B dM_readUntil_4 rfl (by decide) ⟨fun _ => xj_rv_cat v0, trivial⟩ rfl ?_
  refine xg_aload_n (pc := 5) (i := 0) (r := v0) B dM_readUntil_5 rfl rfl ?_
  refine xg_bipush (pc := 6) (v := 8) B dM_readUntil_6 (by decide) ?_
  obtain ⟨hq8, h⟩ := xj_rq_i h
  refine xg_ci (pc := 8) (av := [xj_rv v0, .int (8 : Int32)]) (st := []) (cy := prog_11_method_22_code) (nLy := 4) (rety := (some .int)) (hsy := []) B dM_readUntil_8 (xj_go_v B dM_readUntil_8 vwM_141 rfl hq8) (xj_vw_c vwM_141) (xj_vw_i vwM_141) (by decide) (by decide) (by decide) rfl (fun r9 h9 => cM_digits hl _ _ _ r9 h9) h (fun x2 A3 eA3 h => ?_)
  refine xg_istore_n (pc := 11) (i := 2) (ls' := [(2, .int x2), (1, .int x1), (0, xj_rv v0)]) B dM_readUntil_11 rfl (by decide) ⟨fun _ => rfl, xj_nq (a := 0) (i := 2) (by decide), trivial⟩ rfl ?_
  refine xg_aload_n (pc := 12) (i := 0) (r := v0) B dM_readUntil_12 rfl rfl ?_
  refine xg_geti (pc := 13) B dM_readUntil_13 flM_115 h (fun x4 ex4 h => ?_)
  refine xg_iload_n (pc := 16) (i := 1) B dM_readUntil_16 rfl rfl ?_
  refine xg_isub (pc := 17) B dM_readUntil_17 ?_
  refine xg_bipush (pc := 18) (v := 8) B dM_readUntil_18 (by decide) ?_
  refine xg_icmp_eq (pc := 20) (tgt := 25) B dM_readUntil_20 (by decide) h (fun c20 h => ?_) (fun c20 h => ?_)
  · refine xg_iload_n (pc := 25) (i := 2) B dM_readUntil_25 rfl rfl ?_
    refine xg_sipush (pc := 26) (v := 10000) B dM_readUntil_26 (by decide) ?_
    refine xg_idiv (pc := 29) B dM_readUntil_29 (by decide) ?_
    refine xg_sipush (pc := 30) (v := 2000) B dM_readUntil_30 (by decide) ?_
    refine xg_isub (pc := 33) B dM_readUntil_33 ?_
    refine xg_istore_n (pc := 34) (i := 3) (ls' := [(3, .int ((x2 / (10000 : Int32)) - (2000 : Int32))), (2, .int x2), (1, .int x1), (0, xj_rv v0)]) B dM_readUntil_34 rfl (by decide) ⟨fun _ => rfl, xj_nq (a := 1) (i := 3) (by decide), xj_nq (a := 0) (i := 3) (by decide), trivial⟩ rfl ?_
    refine xg_iload_n (pc := 35) (i := 2) B dM_readUntil_35 rfl rfl ?_
    refine xg_bipush (pc := 36) (v := 100) B dM_readUntil_36 (by decide) ?_
    refine xg_idiv (pc := 38) B dM_readUntil_38 (by decide) ?_
    refine xg_bipush (pc := 39) (v := 100) B dM_readUntil_39 (by decide) ?_
    refine xg_irem (pc := 41) B dM_readUntil_41 (by decide) ?_
    refine xg_istore (pc := 42) (i := 4) (ls' := [(4, .int ((x2 / (100 : Int32)) % (100 : Int32))), (3, .int ((x2 / (10000 : Int32)) - (2000 : Int32))), (2, .int x2), (1, .int x1), (0, xj_rv v0)]) B dM_readUntil_42 (by decide) ⟨fun _ => rfl, xj_nq (a := 2) (i := 4) (by decide), xj_nq (a := 1) (i := 4) (by decide), xj_nq (a := 0) (i := 4) (by decide), trivial⟩ rfl ?_
    refine xg_iload_n (pc := 44) (i := 2) B dM_readUntil_44 rfl rfl ?_
    refine xg_bipush (pc := 45) (v := 100) B dM_readUntil_45 (by decide) ?_
    refine xg_irem (pc := 47) B dM_readUntil_47 (by decide) ?_
    refine xg_istore (pc := 48) (i := 5) (ls' := [(5, .int (x2 % (100 : Int32))), (4, .int ((x2 / (100 : Int32)) % (100 : Int32))), (3, .int ((x2 / (10000 : Int32)) - (2000 : Int32))), (2, .int x2), (1, .int x1), (0, xj_rv v0)]) B dM_readUntil_48 (by decide) ⟨fun _ => rfl, xj_nq (a := 3) (i := 5) (by decide), xj_nq (a := 2) (i := 5) (by decide), xj_nq (a := 1) (i := 5) (by decide), xj_nq (a := 0) (i := 5) (by decide), trivial⟩ rfl ?_
    refine xg_iload_n (pc := 50) (i := 3) B dM_readUntil_50 rfl rfl ?_
    refine xg_iload (pc := 51) (i := 4) B dM_readUntil_51 rfl ?_
    refine xg_iload (pc := 53) (i := 5) B dM_readUntil_53 rfl ?_
    refine xg_ci (pc := 55) (av := [.int ((x2 / (10000 : Int32)) - (2000 : Int32)), .int ((x2 / (100 : Int32)) % (100 : Int32)), .int (x2 % (100 : Int32))]) (st := []) (cy := prog_11_method_8_code) (nLy := 3) (rety := (some .boolean)) (hsy := []) B dM_readUntil_55 (xj_go_s B dM_readUntil_55 swM_81 rfl) swM_81.2.2.1 swM_81.2.2.2.1 (by decide) (by decide) (by decide) rfl (fun r9 h9 => cM_isDate hl _ _ _ _ r9 h9) h (fun x5 A6 eA6 h => ?_)
    refine xg_if_ne (pc := 58) (tgt := 63) B dM_readUntil_58 (by decide) h (fun c58 h => ?_) (fun c58 h => ?_)
    · refine xg_aload_n (pc := 63) (i := 0) (r := v0) B dM_readUntil_63 rfl rfl ?_
      refine xg_iload_n (pc := 64) (i := 3) B dM_readUntil_64 rfl rfl ?_
      refine xg_iload (pc := 65) (i := 4) B dM_readUntil_65 rfl ?_
      refine xg_iload (pc := 67) (i := 5) B dM_readUntil_67 rfl ?_
      refine xg_ci (pc := 69) (av := [.int ((x2 / (10000 : Int32)) - (2000 : Int32)), .int ((x2 / (100 : Int32)) % (100 : Int32)), .int (x2 % (100 : Int32))]) (st := [xj_rv v0]) (cy := prog_11_method_7_code) (nLy := 5) (rety := (some .int)) (hsy := []) B dM_readUntil_69 (xj_go_s B dM_readUntil_69 swM_85 rfl) swM_85.2.2.1 swM_85.2.2.2.1 (by decide) (by decide) (by simp [xj_ic, xj_lc, xj_rv_cat]) rfl (fun r9 h9 => cM_dayOf hl _ _ _ _ r9 h9) h (fun x7 A8 eA8 h => ?_)
      refine xg_puti (pc := 72) B dM_readUntil_72 (fpM_144 _) h (fun A9 eA9 h => ?_)
      refine xg_iconst (pc := 75) (v := 1) B dM_readUntil_75 (by decide) ?_
      exact xg_zret B dM_readUntil_76 h
    · refine xg_iconst (pc := 61) (v := 0) B dM_readUntil_61 (by decide) ?_
      exact xg_zret B dM_readUntil_62 h
  · refine xg_iconst (pc := 23) (v := 0) B dM_readUntil_23 (by decide) ?_
    exact xg_zret B dM_readUntil_24 h
theorem cM_readUntil {l : Launch} (hl : l.stackTraces = false) (v0 : xj_Rf) (A : xj_H) (r : xj_R) (h : fM_readUntil v0 A = some r) : xj_M l yM_readUntil prog_11_method_24_code 6 (some .boolean) [] 3 [xj_rv v0] A r := by
  refine xj_M.of hl (by decide +kernel) (by simp [lg_sl, xj_ic, xj_lc, xj_rv_cat]) (fun z B hA hr => ?_)
  subst hr
  have hw := wM_readUntil hl B v0 A h
  simpa [lv_args, xj_ic, xj_lc, xj_rv_cat] using hw
/-! RecurrenceBookModel.weekdayOf(J)I -/
def fM_weekdayOf_76 (s0 : Int32) (A : xj_H) : Option xj_R :=
  some (.inl (some (.int s0)), A)
def fM_weekdayOf (v0 : Int64) (A : xj_H) : Option xj_R :=
  if ¬ (lg_cmp v0 (431 : Int64)) = 0 then
    if ¬ (lg_cmp v0 (661 : Int64)) = 0 then
      if ¬ (lg_cmp v0 (741 : Int64)) = 0 then
        if ¬ (lg_cmp v0 (648 : Int64)) = 0 then
          if ¬ (lg_cmp v0 (210 : Int64)) = 0 then
            if ¬ (lg_cmp v0 (609 : Int64)) = 0 then
              if ¬ (lg_cmp v0 (629 : Int64)) = 0 then
                fM_weekdayOf_76 (-1 : Int32) A
              else
                fM_weekdayOf_76 (6 : Int32) A
            else
              fM_weekdayOf_76 (5 : Int32) A
          else
            some (.inl (some (.int (4 : Int32))), A)
        else
          some (.inl (some (.int (3 : Int32))), A)
      else
        some (.inl (some (.int (2 : Int32))), A)
    else
      some (.inl (some (.int (1 : Int32))), A)
  else
    some (.inl (some (.int (0 : Int32))), A)
theorem wM_weekdayOf_76 {l : Launch} (hl : l.stackTraces = false) {z : xj_F} (B : xj_B l yM_weekdayOf prog_11_method_25_code 2 (some .int) [] 1 z) (s0 : Int32) (A : xj_H) (h : fM_weekdayOf_76 s0 A = some (xf_r z)) : xj_W l z 76 [] [.int s0] A := by
  unfold fM_weekdayOf_76 at h
  exact xg_iret B dM_weekdayOf_76 h
theorem wM_weekdayOf {l : Launch} (hl : l.stackTraces = false) {z : xj_F} (B : xj_B l yM_weekdayOf prog_11_method_25_code 2 (some .int) [] 1 z) (v0 : Int64) (A : xj_H) (h : fM_weekdayOf v0 A = some (xf_r z)) : xj_W l z 0 [(0, .long v0)] [] A := by
  unfold fM_weekdayOf at h
  refine xg_lload_n (pc := 0) (i := 0) B dM_weekdayOf_0 rfl rfl ?_
  refine xg_ldc2 (pc := 1) (v := 431) B dM_weekdayOf_1 kM_147 ?_
  refine xg_lcmp (pc := 4) B dM_weekdayOf_4 ?_
  refine xg_if_ne (pc := 5) (tgt := 10) B dM_weekdayOf_5 (by decide) h (fun c5 h => ?_) (fun c5 h => ?_)
  · refine xg_lload_n (pc := 10) (i := 0) B dM_weekdayOf_10 rfl rfl ?_
    refine xg_ldc2 (pc := 11) (v := 661) B dM_weekdayOf_11 kM_149 ?_
    refine xg_lcmp (pc := 14) B dM_weekdayOf_14 ?_
    refine xg_if_ne (pc := 15) (tgt := 20) B dM_weekdayOf_15 (by decide) h (fun c15 h => ?_) (fun c15 h => ?_)
    · refine xg_lload_n (pc := 20) (i := 0) B dM_weekdayOf_20 rfl rfl ?_
      refine xg_ldc2 (pc := 21) (v := 741) B dM_weekdayOf_21 kM_151 ?_
      refine xg_lcmp (pc := 24) B dM_weekdayOf_24 ?_
      refine xg_if_ne (pc := 25) (tgt := 30) B dM_weekdayOf_25 (by decide) h (fun c25 h => ?_) (fun c25 h => ?_)
      · refine xg_lload_n (pc := 30) (i := 0) B dM_weekdayOf_30 rfl rfl ?_
        refine xg_ldc2 (pc := 31) (v := 648) B dM_weekdayOf_31 kM_153 ?_
        refine xg_lcmp (pc := 34) B dM_weekdayOf_34 ?_
        refine xg_if_ne (pc := 35) (tgt := 40) B dM_weekdayOf_35 (by decide) h (fun c35 h => ?_) (fun c35 h => ?_)
        · refine xg_lload_n (pc := 40) (i := 0) B dM_weekdayOf_40 rfl rfl ?_
          refine xg_ldc2 (pc := 41) (v := 210) B dM_weekdayOf_41 kM_155 ?_
          refine xg_lcmp (pc := 44) B dM_weekdayOf_44 ?_
          refine xg_if_ne (pc := 45) (tgt := 50) B dM_weekdayOf_45 (by decide) h (fun c45 h => ?_) (fun c45 h => ?_)
          · refine xg_lload_n (pc := 50) (i := 0) B dM_weekdayOf_50 rfl rfl ?_
            refine xg_ldc2 (pc := 51) (v := 609) B dM_weekdayOf_51 kM_157 ?_
            refine xg_lcmp (pc := 54) B dM_weekdayOf_54 ?_
            refine xg_if_ne (pc := 55) (tgt := 62) B dM_weekdayOf_55 (by decide) h (fun c55 h => ?_) (fun c55 h => ?_)
            · refine xg_lload_n (pc := 62) (i := 0) B dM_weekdayOf_62 rfl rfl ?_
              refine xg_ldc2 (pc := 63) (v := 629) B dM_weekdayOf_63 kM_159 ?_
              refine xg_lcmp (pc := 66) B dM_weekdayOf_66 ?_
              refine xg_if_ne (pc := 67) (tgt := 75) B dM_weekdayOf_67 (by decide) h (fun c67 h => ?_) (fun c67 h => ?_)
              · refine xg_iconst (pc := 75) (v := -1) B dM_weekdayOf_75 (by decide) ?_
                refine xg_sub (ls' := []) [] rfl ?_
                exact wM_weekdayOf_76 hl B (-1 : Int32) A h
              · refine xg_bipush (pc := 70) (v := 6) B dM_weekdayOf_70 (by decide) ?_
                refine xg_goto (pc := 72) (tgt := 76) B dM_weekdayOf_72 (by decide) ?_
                refine xg_sub (ls' := []) [] rfl ?_
                exact wM_weekdayOf_76 hl B (6 : Int32) A h
            · refine xg_iconst (pc := 58) (v := 5) B dM_weekdayOf_58 (by decide) ?_
              refine xg_goto (pc := 59) (tgt := 76) B dM_weekdayOf_59 (by decide) ?_
              refine xg_sub (ls' := []) [] rfl ?_
              exact wM_weekdayOf_76 hl B (5 : Int32) A h
          · refine xg_iconst (pc := 48) (v := 4) B dM_weekdayOf_48 (by decide) ?_
            exact xg_iret B dM_weekdayOf_49 h
        · refine xg_iconst (pc := 38) (v := 3) B dM_weekdayOf_38 (by decide) ?_
          exact xg_iret B dM_weekdayOf_39 h
      · refine xg_iconst (pc := 28) (v := 2) B dM_weekdayOf_28 (by decide) ?_
        exact xg_iret B dM_weekdayOf_29 h
    · refine xg_iconst (pc := 18) (v := 1) B dM_weekdayOf_18 (by decide) ?_
      exact xg_iret B dM_weekdayOf_19 h
  · refine xg_iconst (pc := 8) (v := 0) B dM_weekdayOf_8 (by decide) ?_
    exact xg_iret B dM_weekdayOf_9 h
theorem cM_weekdayOf {l : Launch} (hl : l.stackTraces = false) (v0 : Int64) (A : xj_H) (r : xj_R) (h : fM_weekdayOf v0 A = some r) : xj_M l yM_weekdayOf prog_11_method_25_code 2 (some .int) [] 1 [.long v0] A r := by
  refine xj_M.of hl (by decide +kernel) (by simp [lg_sl, xj_ic, xj_lc, xj_rv_cat]) (fun z B hA hr => ?_)
  subst hr
  have hw := wM_weekdayOf hl B v0 A h
  simpa [lv_args, xj_ic, xj_lc, xj_rv_cat] using hw
/-! RecurrenceBookModel.readWeekday()Z -/
def fM_readWeekday_96 (v0 : xj_Rf) (s0 : Int32) (s1 : Int32) (s2 : xj_Rf) (A : xj_H) : Option xj_R :=
  (xj_as A s2 0 s1 s0).bind fun A1 =>
  (xj_gi A1 v0 7 25).bind fun x2 =>
  (xj_pv A1 v0 7 25 (.int (x2 + (1 : Int32)))).bind fun A3 =>
  xj_rz (1 : Int32) A3
def fM_readWeekday_58 (A : xj_H) : Option xj_R :=
  xj_rz (0 : Int32) A
def fM_readWeekday_36 (v0 : xj_Rf) (v1 : Int32) (v2 : Int32) (A : xj_H) : Option xj_R :=
  xj_bl (xj_rq A v0 7 (fM_letters v0 (2 : Int32) A)) fun x1 A2 =>
  xj_bi (fM_weekdayOf x1 A2) fun x3 A4 =>
  if x3 < 0 then
    fM_readWeekday_58  A4
  else
    (xj_gi A4 v0 7 25).bind fun x5 =>
    if ¬ x5 = (7 : Int32) then
      (xj_gr A4 v0 7 23).bind fun x6 =>
      (xj_gi A4 v0 7 25).bind fun x7 =>
      (xj_as A4 x6 0 x7 x3).bind fun A8 =>
      (xj_gr A8 v0 7 24).bind fun x9 =>
      (xj_gi A8 v0 7 25).bind fun x10 =>
      if 0 ≤ v2 then
        if v1 = 0 then
          fM_readWeekday_96 v0 v2 x10 x9 A8
        else
          fM_readWeekday_96 v0 (-v2) x10 x9 A8
      else
        fM_readWeekday_96 v0 (0 : Int32) x10 x9 A8
    else
      fM_readWeekday_58  A4
def fM_readWeekday_34 (A : xj_H) : Option xj_R :=
  xj_rz (0 : Int32) A
def fM_readWeekday (v0 : xj_Rf) (A : xj_H) : Option xj_R :=
  xj_bi (xj_rq A v0 7 (fM_takes v0 (45 : Int32) A)) fun x1 A2 =>
  xj_bi (xj_rq A2 v0 7 (fM_digits v0 (1 : Int32) A2)) fun x3 A4 =>
  if 0 ≤ x3 then
    if x3 < (1 : Int32) then
      fM_readWeekday_34  A4
    else
      if x3 ≤ (5 : Int32) then
        fM_readWeekday_36 v0 x1 x3 A4
      else
        fM_readWeekday_34  A4
  else
    if x1 = 0 then
      fM_readWeekday_36 v0 x1 x3 A4
    else
      fM_readWeekday_34  A4
theorem wM_readWeekday_96 {l : Launch} (hl : l.stackTraces = false) {z : xj_F} (B : xj_B l yM_readWeekday prog_11_method_26_code 4 (some .boolean) [] 3 z) (v0 : xj_Rf) (s0 : Int32) (s1 : Int32) (s2 : xj_Rf) (A : xj_H) (h : fM_readWeekday_96 v0 s0 s1 s2 A = some (xf_r z)) : xj_W l z 96 [(0, xj_rv v0)] [.int s0, .int s1, xj_rv s2] A := by
  unfold fM_readWeekday_96 at h
  refine xg_iastore (pc := 96) B dM_readWeekday_96 h (fun A1 eA1 h => ?_)
  refine xg_aload_n (pc := 97) (i := 0) (r := v0) B dM_readWeekday_97 rfl rfl ?_
  refine xg_dup (pc := 98) B dM_readWeekday_98 (xj_rv_cat v0) ?_
  refine xg_geti (pc := 99) B dM_readWeekday_99 flM_168 h (fun x2 ex2 h => ?_)
  refine xg_iconst (pc := 102) (v := 1) B dM_readWeekday_102 (by decide) ?_
  refine xg_iadd (pc := 103) B dM_readWeekday_103 ?_
  refine xg_puti (pc := 104) B dM_readWeekday_104 (fpM_168 _) h (fun A3 eA3 h => ?_)
  refine xg_iconst (pc := 107) (v := 1) B dM_readWeekday_107 (by decide) ?_
  exact xg_zret B dM_readWeekday_108 h
theorem wM_readWeekday_58 {l : Launch} (hl : l.stackTraces = false) {z : xj_F} (B : xj_B l yM_readWeekday prog_11_method_26_code 4 (some .boolean) [] 3 z) (A : xj_H) (h : fM_readWeekday_58  A = some (xf_r z)) : xj_W l z 58 [] [] A := by
  unfold fM_readWeekday_58 at h
  refine xg_iconst (pc := 58) (v := 0) B dM_readWeekday_58 (by decide) ?_
  exact xg_zret B dM_readWeekday_59 h
theorem wM_readWeekday_36 {l : Launch} (hl : l.stackTraces = false) {z : xj_F} (B : xj_B l yM_readWeekday prog_11_method_26_code 4 (some .boolean) [] 3 z) (v0 : xj_Rf) (v1 : Int32) (v2 : Int32) (A : xj_H) (h : fM_readWeekday_36 v0 v1 v2 A = some (xf_r z)) : xj_W l z 36 [(0, xj_rv v0), (1, .int v1), (2, .int v2)] [] A := by
  unfold fM_readWeekday_36 at h
  refine xg_aload_n (pc := 36) (i := 0) (r := v0) B dM_readWeekday_36 rfl rfl ?_
  refine xg_iconst (pc := 37) (v := 2) B dM_readWeekday_37 (by decide) ?_
  obtain ⟨hq38, h⟩ := xj_rq_l h
  refine xg_cl (pc := 38) (av := [xj_rv v0, .int (2 : Int32)]) (st := []) (cy := prog_11_method_21_code) (nLy := 5) (rety := (some .long)) (hsy := []) B dM_readWeekday_38 (xj_go_v B dM_readWeekday_38 vwM_126 rfl hq38) (xj_vw_c vwM_126) (xj_vw_i vwM_126) (by decide) (by decide) (by decide) rfl (fun r9 h9 => cM_letters hl _ _ _ r9 h9) h (fun x1 A2 eA2 h => ?_)
  refine xg_ci (pc := 41) (av := [.long x1]) (st := []) (cy := prog_11_method_25_code) (nLy := 2) (rety := (some .int)) (hsy := []) B dM_readWeekday_41 (xj_go_s B dM_readWeekday_41 swM_164 rfl) swM_164.2.2.1 swM_164.2.2.2.1 (by decide) (by decide) (by decide) rfl (fun r9 h9 => cM_weekdayOf hl _ _ r9 h9) h (fun x3 A4 eA4 h => ?_)
  refine xg_istore_n (pc := 44) (i := 3) (ls' := [(3, .int x3), (0, xj_rv v0), (1, .int v1), (2, .int v2)]) B dM_readWeekday_44 rfl (by decide) ⟨xj_nq (a := 0) (i := 3) (by decide), xj_nq (a := 1) (i := 3) (by decide), fun _ => rfl, trivial⟩ rfl ?_
  refine xg_iload_n (pc := 45) (i := 3) B dM_readWeekday_45 rfl rfl ?_
  refine xg_if_lt (pc := 46) (tgt := 58) B dM_readWeekday_46 (by decide) h (fun c46 h => ?_) (fun c46 h => ?_)
  · refine xg_sub (ls' := []) [] rfl ?_
    exact wM_readWeekday_58 hl B  A4 h
  · refine xg_aload_n (pc := 49) (i := 0) (r := v0) B dM_readWeekday_49 rfl rfl ?_
    refine xg_geti (pc := 50) B dM_readWeekday_50 flM_168 h (fun x5 ex5 h => ?_)
    refine xg_bipush (pc := 53) (v := 7) B dM_readWeekday_53 (by decide) ?_
    refine xg_icmp_ne (pc := 55) (tgt := 60) B dM_readWeekday_55 (by decide) h (fun c55 h => ?_) (fun c55 h => ?_)
    · refine xg_aload_n (pc := 60) (i := 0) (r := v0) B dM_readWeekday_60 rfl rfl ?_
      refine xg_getr (pc := 61) B dM_readWeekday_61 flM_44 h (fun x6 ex6 h => ?_)
      refine xg_aload_n (pc := 64) (i := 0) (r := v0) B dM_readWeekday_64 rfl rfl ?_
      refine xg_geti (pc := 65) B dM_readWeekday_65 flM_168 h (fun x7 ex7 h => ?_)
      refine xg_iload_n (pc := 68) (i := 3) B dM_readWeekday_68 rfl rfl ?_
      refine xg_iastore (pc := 69) B dM_readWeekday_69 h (fun A8 eA8 h => ?_)
      refine xg_aload_n (pc := 70) (i := 0) (r := v0) B dM_readWeekday_70 rfl rfl ?_
      refine xg_getr (pc := 71) B dM_readWeekday_71 flM_47 h (fun x9 ex9 h => ?_)
      refine xg_aload_n (pc := 74) (i := 0) (r := v0) B dM_readWeekday_74 rfl rfl ?_
      refine xg_geti (pc := 75) B dM_readWeekday_75 flM_168 h (fun x10 ex10 h => ?_)
      refine xg_iload_n (pc := 78) (i := 2) B dM_readWeekday_78 rfl rfl ?_
      refine xg_if_ge (pc := 79) (tgt := 86) B dM_readWeekday_79 (by decide) h (fun c79 h => ?_) (fun c79 h => ?_)
      · refine xg_iload_n (pc := 86) (i := 1) B dM_readWeekday_86 rfl rfl ?_
        refine xg_if_eq (pc := 87) (tgt := 95) B dM_readWeekday_87 (by decide) h (fun c87 h => ?_) (fun c87 h => ?_)
        · refine xg_iload_n (pc := 95) (i := 2) B dM_readWeekday_95 rfl rfl ?_
          refine xg_sub (ls' := [(0, xj_rv v0)]) [1] rfl ?_
          exact wM_readWeekday_96 hl B v0 v2 x10 x9 A8 h
        · refine xg_iload_n (pc := 90) (i := 2) B dM_readWeekday_90 rfl rfl ?_
          refine xg_ineg (pc := 91) B dM_readWeekday_91 ?_
          refine xg_goto (pc := 92) (tgt := 96) B dM_readWeekday_92 (by decide) ?_
          refine xg_sub (ls' := [(0, xj_rv v0)]) [1] rfl ?_
          exact wM_readWeekday_96 hl B v0 (-v2) x10 x9 A8 h
      · refine xg_iconst (pc := 82) (v := 0) B dM_readWeekday_82 (by decide) ?_
        refine xg_goto (pc := 83) (tgt := 96) B dM_readWeekday_83 (by decide) ?_
        refine xg_sub (ls' := [(0, xj_rv v0)]) [1] rfl ?_
        exact wM_readWeekday_96 hl B v0 (0 : Int32) x10 x9 A8 h
    · refine xg_sub (ls' := []) [] rfl ?_
      exact wM_readWeekday_58 hl B  A4 h
theorem wM_readWeekday_34 {l : Launch} (hl : l.stackTraces = false) {z : xj_F} (B : xj_B l yM_readWeekday prog_11_method_26_code 4 (some .boolean) [] 3 z) (A : xj_H) (h : fM_readWeekday_34  A = some (xf_r z)) : xj_W l z 34 [] [] A := by
  unfold fM_readWeekday_34 at h
  refine xg_iconst (pc := 34) (v := 0) B dM_readWeekday_34 (by decide) ?_
  exact xg_zret B dM_readWeekday_35 h
theorem wM_readWeekday {l : Launch} (hl : l.stackTraces = false) {z : xj_F} (B : xj_B l yM_readWeekday prog_11_method_26_code 4 (some .boolean) [] 3 z) (v0 : xj_Rf) (A : xj_H) (h : fM_readWeekday v0 A = some (xf_r z)) : xj_W l z 0 [(0, xj_rv v0)] [] A := by
  unfold fM_readWeekday at h
  refine xg_aload_n (pc := 0) (i := 0) (r := v0) B dM_readWeekday_0 rfl rfl ?_
  refine xg_bipush (pc := 1) (v := 45) B dM_readWeekday_1 (by decide) ?_
  obtain ⟨hq3, h⟩ := xj_rq_i h
  refine xg_ci (pc := 3) (av := [xj_rv v0, .int (45 : Int32)]) (st := []) (cy := prog_11_method_20_code) (nLy := 3) (rety := (some .boolean)) (hsy := []) B dM_readWeekday_3 (xj_go_v B dM_readWeekday_3 vwM_161 rfl hq3) (xj_vw_c vwM_161) (xj_vw_i vwM_161) (by decide) (by decide) (by decide) rfl (fun r9 h9 => cM_takes hl _ _ _ r9 h9) h (fun x1 A2 eA2 h => ?_)
  refine xg_istore_n (pc := 6) (i := 1) (ls' := [(1, .int x1), (0, xj_rv v0)]) B dM_readWeekday_6 rfl (by decide) ⟨fun _ => xj_rv_cat v0, trivial⟩ rfl ?_
  refine xg_aload_n (pc := 7) (i := 0) (r := v0) B dM_readWeekday_7 rfl rfl ?_
  refine xg_iconst (pc := 8) (v := 1) B dM_readWeekday_8 (by decide) ?_
  obtain ⟨hq9, h⟩ := xj_rq_i h
  refine xg_ci (pc := 9) (av := [xj_rv v0, .int (1 : Int32)]) (st := []) (cy := prog_11_method_22_code) (nLy := 4) (rety := (some .int)) (hsy := []) B dM_readWeekday_9 (xj_go_v B dM_readWeekday_9 vwM_141 rfl hq9) (xj_vw_c vwM_141) (xj_vw_i vwM_141) (by decide) (by decide) (by decide) rfl (fun r9 h9 => cM_digits hl _ _ _ r9 h9) h (fun x3 A4 eA4 h => ?_)
  refine xg_istore_n (pc := 12) (i := 2) (ls' := [(2, .int x3), (1, .int x1), (0, xj_rv v0)]) B dM_readWeekday_12 rfl (by decide) ⟨fun _ => rfl, xj_nq (a := 0) (i := 2) (by decide), trivial⟩ rfl ?_
  refine xg_iload_n (pc := 13) (i := 2) B dM_readWeekday_13 rfl rfl ?_
  refine xg_if_ge (pc := 14) (tgt := 24) B dM_readWeekday_14 (by decide) h (fun c14 h => ?_) (fun c14 h => ?_)
  · refine xg_iload_n (pc := 24) (i := 2) B dM_readWeekday_24 rfl rfl ?_
    refine xg_iconst (pc := 25) (v := 1) B dM_readWeekday_25 (by decide) ?_
    refine xg_icmp_lt (pc := 26) (tgt := 34) B dM_readWeekday_26 (by decide) h (fun c26 h => ?_) (fun c26 h => ?_)
    · refine xg_sub (ls' := []) [] rfl ?_
      exact wM_readWeekday_34 hl B  A4 h
    · refine xg_iload_n (pc := 29) (i := 2) B dM_readWeekday_29 rfl rfl ?_
      refine xg_iconst (pc := 30) (v := 5) B dM_readWeekday_30 (by decide) ?_
      refine xg_icmp_le (pc := 31) (tgt := 36) B dM_readWeekday_31 (by decide) h (fun c31 h => ?_) (fun c31 h => ?_)
      · refine xg_sub (ls' := [(0, xj_rv v0), (1, .int x1), (2, .int x3)]) [2, 1, 0] rfl ?_
        exact wM_readWeekday_36 hl B v0 x1 x3 A4 h
      · refine xg_sub (ls' := []) [] rfl ?_
        exact wM_readWeekday_34 hl B  A4 h
  · refine xg_iload_n (pc := 17) (i := 1) B dM_readWeekday_17 rfl rfl ?_
    refine xg_if_eq (pc := 18) (tgt := 36) B dM_readWeekday_18 (by decide) h (fun c18 h => ?_) (fun c18 h => ?_)
    · refine xg_sub (ls' := [(0, xj_rv v0), (1, .int x1), (2, .int x3)]) [2, 1, 0] rfl ?_
      exact wM_readWeekday_36 hl B v0 x1 x3 A4 h
    · refine xg_goto (pc := 21) (tgt := 34) B dM_readWeekday_21 (by decide) ?_
      refine xg_sub (ls' := []) [] rfl ?_
      exact wM_readWeekday_34 hl B  A4 h
theorem cM_readWeekday {l : Launch} (hl : l.stackTraces = false) (v0 : xj_Rf) (A : xj_H) (r : xj_R) (h : fM_readWeekday v0 A = some r) : xj_M l yM_readWeekday prog_11_method_26_code 4 (some .boolean) [] 3 [xj_rv v0] A r := by
  refine xj_M.of hl (by decide +kernel) (by simp [lg_sl, xj_ic, xj_lc, xj_rv_cat]) (fun z B hA hr => ?_)
  subst hr
  have hw := wM_readWeekday hl B v0 A h
  simpa [lv_args, xj_ic, xj_lc, xj_rv_cat] using hw
/-! RecurrenceBookModel.readMonthDay()Z -/
def fM_readMonthDay_53 (v0 : xj_Rf) (s0 : Int32) (s1 : Int32) (s2 : xj_Rf) (A : xj_H) : Option xj_R :=
  (xj_as A s2 0 s1 s0).bind fun A1 =>
  (xj_gi A1 v0 7 22).bind fun x2 =>
  (xj_pv A1 v0 7 22 (.int (x2 + (1 : Int32)))).bind fun A3 =>
  xj_rz (1 : Int32) A3
def fM_readMonthDay_33 (A : xj_H) : Option xj_R :=
  xj_rz (0 : Int32) A
def fM_readMonthDay (v0 : xj_Rf) (A : xj_H) : Option xj_R :=
  xj_bi (xj_rq A v0 7 (fM_takes v0 (45 : Int32) A)) fun x1 A2 =>
  xj_bi (xj_rq A2 v0 7 (fM_digits v0 (2 : Int32) A2)) fun x3 A4 =>
  if x3 < (1 : Int32) then
    fM_readMonthDay_33  A4
  else
    if (31 : Int32) < x3 then
      fM_readMonthDay_33  A4
    else
      (xj_gi A4 v0 7 22).bind fun x5 =>
      if ¬ x5 = (8 : Int32) then
        (xj_gr A4 v0 7 21).bind fun x6 =>
        (xj_gi A4 v0 7 22).bind fun x7 =>
        if x1 = 0 then
          fM_readMonthDay_53 v0 x3 x7 x6 A4
        else
          fM_readMonthDay_53 v0 (-x3) x7 x6 A4
      else
        fM_readMonthDay_33  A4
theorem wM_readMonthDay_53 {l : Launch} (hl : l.stackTraces = false) {z : xj_F} (B : xj_B l yM_readMonthDay prog_11_method_27_code 3 (some .boolean) [] 3 z) (v0 : xj_Rf) (s0 : Int32) (s1 : Int32) (s2 : xj_Rf) (A : xj_H) (h : fM_readMonthDay_53 v0 s0 s1 s2 A = some (xf_r z)) : xj_W l z 53 [(0, xj_rv v0)] [.int s0, .int s1, xj_rv s2] A := by
  unfold fM_readMonthDay_53 at h
  refine xg_iastore (pc := 53) B dM_readMonthDay_53 h (fun A1 eA1 h => ?_)
  refine xg_aload_n (pc := 54) (i := 0) (r := v0) B dM_readMonthDay_54 rfl rfl ?_
  refine xg_dup (pc := 55) B dM_readMonthDay_55 (xj_rv_cat v0) ?_
  refine xg_geti (pc := 56) B dM_readMonthDay_56 flM_171 h (fun x2 ex2 h => ?_)
  refine xg_iconst (pc := 59) (v := 1) B dM_readMonthDay_59 (by decide) ?_
  refine xg_iadd (pc := 60) B dM_readMonthDay_60 ?_
  refine xg_puti (pc := 61) B dM_readMonthDay_61 (fpM_171 _) h (fun A3 eA3 h => ?_)
  refine xg_iconst (pc := 64) (v := 1) B dM_readMonthDay_64 (by decide) ?_
  exact xg_zret B dM_readMonthDay_65 h
theorem wM_readMonthDay_33 {l : Launch} (hl : l.stackTraces = false) {z : xj_F} (B : xj_B l yM_readMonthDay prog_11_method_27_code 3 (some .boolean) [] 3 z) (A : xj_H) (h : fM_readMonthDay_33  A = some (xf_r z)) : xj_W l z 33 [] [] A := by
  unfold fM_readMonthDay_33 at h
  refine xg_iconst (pc := 33) (v := 0) B dM_readMonthDay_33 (by decide) ?_
  exact xg_zret B dM_readMonthDay_34 h
theorem wM_readMonthDay {l : Launch} (hl : l.stackTraces = false) {z : xj_F} (B : xj_B l yM_readMonthDay prog_11_method_27_code 3 (some .boolean) [] 3 z) (v0 : xj_Rf) (A : xj_H) (h : fM_readMonthDay v0 A = some (xf_r z)) : xj_W l z 0 [(0, xj_rv v0)] [] A := by
  unfold fM_readMonthDay at h
  refine xg_aload_n (pc := 0) (i := 0) (r := v0) B dM_readMonthDay_0 rfl rfl ?_
  refine xg_bipush (pc := 1) (v := 45) B dM_readMonthDay_1 (by decide) ?_
  obtain ⟨hq3, h⟩ := xj_rq_i h
  refine xg_ci (pc := 3) (av := [xj_rv v0, .int (45 : Int32)]) (st := []) (cy := prog_11_method_20_code) (nLy := 3) (rety := (some .boolean)) (hsy := []) B dM_readMonthDay_3 (xj_go_v B dM_readMonthDay_3 vwM_161 rfl hq3) (xj_vw_c vwM_161) (xj_vw_i vwM_161) (by decide) (by decide) (by decide) rfl (fun r9 h9 => cM_takes hl _ _ _ r9 h9) h (fun x1 A2 eA2 h => ?_)
  refine xg_istore_n (pc := 6) (i := 1) (ls' := [(1, .int x1), (0, xj_rv v0)]) B dM_readMonthDay_6 rfl (by decide) ⟨fun _ => xj_rv_cat v0, trivial⟩ rfl ?_
  refine xg_aload_n (pc := 7) (i := 0) (r := v0) B dM_readMonthDay_7 rfl rfl ?_
  refine xg_iconst (pc := 8) (v := 2) B dM_readMonthDay_8 (by decide) ?_
  obtain ⟨hq9, h⟩ := xj_rq_i h
  refine xg_ci (pc := 9) (av := [xj_rv v0, .int (2 : Int32)]) (st := []) (cy := prog_11_method_22_code) (nLy := 4) (rety := (some .int)) (hsy := []) B dM_readMonthDay_9 (xj_go_v B dM_readMonthDay_9 vwM_141 rfl hq9) (xj_vw_c vwM_141) (xj_vw_i vwM_141) (by decide) (by decide) (by decide) rfl (fun r9 h9 => cM_digits hl _ _ _ r9 h9) h (fun x3 A4 eA4 h => ?_)
  refine xg_istore_n (pc := 12) (i := 2) (ls' := [(2, .int x3), (1, .int x1), (0, xj_rv v0)]) B dM_readMonthDay_12 rfl (by decide) ⟨fun _ => rfl, xj_nq (a := 0) (i := 2) (by decide), trivial⟩ rfl ?_
  refine xg_iload_n (pc := 13) (i := 2) B dM_readMonthDay_13 rfl rfl ?_
  refine xg_iconst (pc := 14) (v := 1) B dM_readMonthDay_14 (by decide) ?_
  refine xg_icmp_lt (pc := 15) (tgt := 33) B dM_readMonthDay_15 (by decide) h (fun c15 h => ?_) (fun c15 h => ?_)
  · refine xg_sub (ls' := []) [] rfl ?_
    exact wM_readMonthDay_33 hl B  A4 h
  · refine xg_iload_n (pc := 18) (i := 2) B dM_readMonthDay_18 rfl rfl ?_
    refine xg_bipush (pc := 19) (v := 31) B dM_readMonthDay_19 (by decide) ?_
    refine xg_icmp_gt (pc := 21) (tgt := 33) B dM_readMonthDay_21 (by decide) h (fun c21 h => ?_) (fun c21 h => ?_)
    · refine xg_sub (ls' := []) [] rfl ?_
      exact wM_readMonthDay_33 hl B  A4 h
    · refine xg_aload_n (pc := 24) (i := 0) (r := v0) B dM_readMonthDay_24 rfl rfl ?_
      refine xg_geti (pc := 25) B dM_readMonthDay_25 flM_171 h (fun x5 ex5 h => ?_)
      refine xg_bipush (pc := 28) (v := 8) B dM_readMonthDay_28 (by decide) ?_
      refine xg_icmp_ne (pc := 30) (tgt := 35) B dM_readMonthDay_30 (by decide) h (fun c30 h => ?_) (fun c30 h => ?_)
      · refine xg_aload_n (pc := 35) (i := 0) (r := v0) B dM_readMonthDay_35 rfl rfl ?_
        refine xg_getr (pc := 36) B dM_readMonthDay_36 flM_41 h (fun x6 ex6 h => ?_)
        refine xg_aload_n (pc := 39) (i := 0) (r := v0) B dM_readMonthDay_39 rfl rfl ?_
        refine xg_geti (pc := 40) B dM_readMonthDay_40 flM_171 h (fun x7 ex7 h => ?_)
        refine xg_iload_n (pc := 43) (i := 1) B dM_readMonthDay_43 rfl rfl ?_
        refine xg_if_eq (pc := 44) (tgt := 52) B dM_readMonthDay_44 (by decide) h (fun c44 h => ?_) (fun c44 h => ?_)
        · refine xg_iload_n (pc := 52) (i := 2) B dM_readMonthDay_52 rfl rfl ?_
          refine xg_sub (ls' := [(0, xj_rv v0)]) [2] rfl ?_
          exact wM_readMonthDay_53 hl B v0 x3 x7 x6 A4 h
        · refine xg_iload_n (pc := 47) (i := 2) B dM_readMonthDay_47 rfl rfl ?_
          refine xg_ineg (pc := 48) B dM_readMonthDay_48 ?_
          refine xg_goto (pc := 49) (tgt := 53) B dM_readMonthDay_49 (by decide) ?_
          refine xg_sub (ls' := [(0, xj_rv v0)]) [2] rfl ?_
          exact wM_readMonthDay_53 hl B v0 (-x3) x7 x6 A4 h
      · refine xg_sub (ls' := []) [] rfl ?_
        exact wM_readMonthDay_33 hl B  A4 h
theorem cM_readMonthDay {l : Launch} (hl : l.stackTraces = false) (v0 : xj_Rf) (A : xj_H) (r : xj_R) (h : fM_readMonthDay v0 A = some r) : xj_M l yM_readMonthDay prog_11_method_27_code 3 (some .boolean) [] 3 [xj_rv v0] A r := by
  refine xj_M.of hl (by decide +kernel) (by simp [lg_sl, xj_ic, xj_lc, xj_rv_cat]) (fun z B hA hr => ?_)
  subst hr
  have hw := wM_readMonthDay hl B v0 A h
  simpa [lv_args, xj_ic, xj_lc, xj_rv_cat] using hw
/-! RecurrenceBookModel.readList(I)Z -/
def fM_readList_80 (k4 : xj_Rf → Int32 → Int32 → Int32 → xj_H → Option xj_R) (v0 : xj_Rf) (v1 : Int32) (v2 : Int32) (A : xj_H) : Option xj_R :=
  xj_bi (xj_rq A v0 7 (fM_takes v0 (44 : Int32) A)) fun x1 A2 =>
  k4 v0 v1 (v2 + 1) x1 A2
def fM_readList_78 (A : xj_H) : Option xj_R :=
  xj_rz (0 : Int32) A
def fM_readList_39 (A : xj_H) : Option xj_R :=
  xj_rz (0 : Int32) A
def fM_readList_4 : Nat → xj_Rf → Int32 → Int32 → Int32 → xj_H → Option xj_R
  | 0, _, _, _, _, _ => none
  | n + 1, v0, v1, v2, v3, A =>
    if v3 = 0 then
      xj_rz (1 : Int32) A
    else
      if ¬ v1 = (2 : Int32) then
        if ¬ v1 = 0 then
          xj_bi (xj_rq A v0 7 (fM_readMonthDay v0 A)) fun x1 A2 =>
          if ¬ x1 = 0 then
            fM_readList_80 (fM_readList_4 n) v0 v1 v2 A2
          else
            fM_readList_78  A2
        else
          xj_bi (xj_rq A v0 7 (fM_readWeekday v0 A)) fun x3 A4 =>
          if ¬ x3 = 0 then
            fM_readList_80 (fM_readList_4 n) v0 v1 v2 A4
          else
            fM_readList_78  A4
      else
        xj_bi (xj_rq A v0 7 (fM_digits v0 (2 : Int32) A)) fun x5 A6 =>
        if x5 < (1 : Int32) then
          fM_readList_39  A6
        else
          if (12 : Int32) < x5 then
            fM_readList_39  A6
          else
            if ¬ v2 = (8 : Int32) then
              (xj_gr A6 v0 7 20).bind fun x7 =>
              (xj_as A6 x7 2 x5 (vp_nar .boolean (1 : Int32))).bind fun A8 =>
              (xj_pz A8 v0 7 19 (1 : Int32)).bind fun A9 =>
              fM_readList_80 (fM_readList_4 n) v0 v1 v2 A9
            else
              fM_readList_39  A6
def fM_readList (v0 : xj_Rf) (v1 : Int32) (A : xj_H) : Option xj_R :=
  fM_readList_4 xj_fu v0 v1 (0 : Int32) (1 : Int32) A
theorem wM_readList_80 {l : Launch} (hl : l.stackTraces = false) {z : xj_F} (B : xj_B l yM_readList prog_11_method_28_code 5 (some .boolean) [] 4 z) (k4 : xj_Rf → Int32 → Int32 → Int32 → xj_H → Option xj_R) (hk4 : ∀ (v0 : xj_Rf) (v1 : Int32) (v2 : Int32) (v3 : Int32) (A : xj_H), k4 v0 v1 v2 v3 A = some (xf_r z) → xj_W l z 4 [(0, xj_rv v0), (1, .int v1), (2, .int v2), (3, .int v3)] [] A) (v0 : xj_Rf) (v1 : Int32) (v2 : Int32) (A : xj_H) (h : fM_readList_80 k4 v0 v1 v2 A = some (xf_r z)) : xj_W l z 80 [(0, xj_rv v0), (1, .int v1), (2, .int v2)] [] A := by
  unfold fM_readList_80 at h
  refine xg_iinc (pc := 80) (i := 2) (v := (v2 + 1)) (ls' := [(2, .int (v2 + 1)), (0, xj_rv v0), (1, .int v1)]) B dM_readList_80 rfl (xj_inc_1 _) (by decide) ⟨xj_nq (a := 0) (i := 2) (by decide), fun _ => rfl, xj_nq (a := 2) (i := 2) (by decide), trivial⟩ rfl ?_
  refine xg_aload_n (pc := 83) (i := 0) (r := v0) B dM_readList_83 rfl rfl ?_
  refine xg_bipush (pc := 84) (v := 44) B dM_readList_84 (by decide) ?_
  obtain ⟨hq86, h⟩ := xj_rq_i h
  refine xg_ci (pc := 86) (av := [xj_rv v0, .int (44 : Int32)]) (st := []) (cy := prog_11_method_20_code) (nLy := 3) (rety := (some .boolean)) (hsy := []) B dM_readList_86 (xj_go_v B dM_readList_86 vwM_161 rfl hq86) (xj_vw_c vwM_161) (xj_vw_i vwM_161) (by decide) (by decide) (by decide) rfl (fun r9 h9 => cM_takes hl _ _ _ r9 h9) h (fun x1 A2 eA2 h => ?_)
  refine xg_istore_n (pc := 89) (i := 3) (ls' := [(3, .int x1), (2, .int (v2 + 1)), (0, xj_rv v0), (1, .int v1)]) B dM_readList_89 rfl (by decide) ⟨fun _ => rfl, xj_nq (a := 0) (i := 3) (by decide), xj_nq (a := 1) (i := 3) (by decide), trivial⟩ rfl ?_
  refine xg_goto (pc := 90) (tgt := 4) B dM_readList_90 (by decide) ?_
  refine xg_sub (ls' := [(0, xj_rv v0), (1, .int v1), (2, .int (v2 + 1)), (3, .int x1)]) [2, 3, 1, 0] rfl ?_
  exact hk4 v0 v1 (v2 + 1) x1 A2 h
theorem wM_readList_78 {l : Launch} (hl : l.stackTraces = false) {z : xj_F} (B : xj_B l yM_readList prog_11_method_28_code 5 (some .boolean) [] 4 z) (A : xj_H) (h : fM_readList_78  A = some (xf_r z)) : xj_W l z 78 [] [] A := by
  unfold fM_readList_78 at h
  refine xg_iconst (pc := 78) (v := 0) B dM_readList_78 (by decide) ?_
  exact xg_zret B dM_readList_79 h
theorem wM_readList_39 {l : Launch} (hl : l.stackTraces = false) {z : xj_F} (B : xj_B l yM_readList prog_11_method_28_code 5 (some .boolean) [] 4 z) (A : xj_H) (h : fM_readList_39  A = some (xf_r z)) : xj_W l z 39 [] [] A := by
  unfold fM_readList_39 at h
  refine xg_iconst (pc := 39) (v := 0) B dM_readList_39 (by decide) ?_
  exact xg_zret B dM_readList_40 h
theorem wM_readList_4 {l : Launch} (hl : l.stackTraces = false) {z : xj_F} (B : xj_B l yM_readList prog_11_method_28_code 5 (some .boolean) [] 4 z) : ∀ (n : Nat) (v0 : xj_Rf) (v1 : Int32) (v2 : Int32) (v3 : Int32) (A : xj_H), fM_readList_4 n v0 v1 v2 v3 A = some (xf_r z) → xj_W l z 4 [(0, xj_rv v0), (1, .int v1), (2, .int v2), (3, .int v3)] [] A
  | 0, _, _, _, _, _, h => by simp [fM_readList_4] at h
  | n + 1, v0, v1, v2, v3, A, h => by
    rw [fM_readList_4] at h
    refine xg_iload_n (pc := 4) (i := 3) B dM_readList_4 rfl rfl ?_
    refine xg_if_eq (pc := 5) (tgt := 93) B dM_readList_5 (by decide) h (fun c5 h => ?_) (fun c5 h => ?_)
    · refine xg_iconst (pc := 93) (v := 1) B dM_readList_93 (by decide) ?_
      exact xg_zret B dM_readList_94 h
    · refine xg_iload_n (pc := 8) (i := 1) B dM_readList_8 rfl rfl ?_
      refine xg_iconst (pc := 9) (v := 2) B dM_readList_9 (by decide) ?_
      refine xg_icmp_ne (pc := 10) (tgt := 57) B dM_readList_10 (by decide) h (fun c10 h => ?_) (fun c10 h => ?_)
      · refine xg_iload_n (pc := 57) (i := 1) B dM_readList_57 rfl rfl ?_
        refine xg_if_ne (pc := 58) (tgt := 71) B dM_readList_58 (by decide) h (fun c58 h => ?_) (fun c58 h => ?_)
        · refine xg_aload_n (pc := 71) (i := 0) (r := v0) B dM_readList_71 rfl rfl ?_
          obtain ⟨hq72, h⟩ := xj_rq_i h
          refine xg_ci (pc := 72) (av := [xj_rv v0]) (st := []) (cy := prog_11_method_27_code) (nLy := 3) (rety := (some .boolean)) (hsy := []) B dM_readList_72 (xj_go_v B dM_readList_72 vwM_182 rfl hq72) (xj_vw_c vwM_182) (xj_vw_i vwM_182) (by decide) (by decide) (by decide) rfl (fun r9 h9 => cM_readMonthDay hl _ _ r9 h9) h (fun x1 A2 eA2 h => ?_)
          refine xg_if_ne (pc := 75) (tgt := 80) B dM_readList_75 (by decide) h (fun c75 h => ?_) (fun c75 h => ?_)
          · refine xg_sub (ls' := [(0, xj_rv v0), (1, .int v1), (2, .int v2)]) [0, 1, 2] rfl ?_
            exact wM_readList_80 hl B (fM_readList_4 n) (wM_readList_4 hl B n) v0 v1 v2 A2 h
          · refine xg_sub (ls' := []) [] rfl ?_
            exact wM_readList_78 hl B  A2 h
        · refine xg_aload_n (pc := 61) (i := 0) (r := v0) B dM_readList_61 rfl rfl ?_
          obtain ⟨hq62, h⟩ := xj_rq_i h
          refine xg_ci (pc := 62) (av := [xj_rv v0]) (st := []) (cy := prog_11_method_26_code) (nLy := 4) (rety := (some .boolean)) (hsy := []) B dM_readList_62 (xj_go_v B dM_readList_62 vwM_178 rfl hq62) (xj_vw_c vwM_178) (xj_vw_i vwM_178) (by decide) (by decide) (by decide) rfl (fun r9 h9 => cM_readWeekday hl _ _ r9 h9) h (fun x3 A4 eA4 h => ?_)
          refine xg_if_ne (pc := 65) (tgt := 80) B dM_readList_65 (by decide) h (fun c65 h => ?_) (fun c65 h => ?_)
          · refine xg_sub (ls' := [(0, xj_rv v0), (1, .int v1), (2, .int v2)]) [0, 1, 2] rfl ?_
            exact wM_readList_80 hl B (fM_readList_4 n) (wM_readList_4 hl B n) v0 v1 v2 A4 h
          · refine xg_goto (pc := 68) (tgt := 78) B dM_readList_68 (by decide) ?_
            refine xg_sub (ls' := []) [] rfl ?_
            exact wM_readList_78 hl B  A4 h
      · refine xg_aload_n (pc := 13) (i := 0) (r := v0) B dM_readList_13 rfl rfl ?_
        refine xg_iconst (pc := 14) (v := 2) B dM_readList_14 (by decide) ?_
        obtain ⟨hq15, h⟩ := xj_rq_i h
        refine xg_ci (pc := 15) (av := [xj_rv v0, .int (2 : Int32)]) (st := []) (cy := prog_11_method_22_code) (nLy := 4) (rety := (some .int)) (hsy := []) B dM_readList_15 (xj_go_v B dM_readList_15 vwM_141 rfl hq15) (xj_vw_c vwM_141) (xj_vw_i vwM_141) (by decide) (by decide) (by decide) rfl (fun r9 h9 => cM_digits hl _ _ _ r9 h9) h (fun x5 A6 eA6 h => ?_)
        refine xg_istore (pc := 18) (i := 4) (ls' := [(4, .int x5), (0, xj_rv v0), (1, .int v1), (2, .int v2), (3, .int v3)]) B dM_readList_18 (by decide) ⟨xj_nq (a := 0) (i := 4) (by decide), xj_nq (a := 1) (i := 4) (by decide), xj_nq (a := 2) (i := 4) (by decide), fun _ => rfl, trivial⟩ rfl ?_
        refine xg_iload (pc := 20) (i := 4) B dM_readList_20 rfl ?_
        refine xg_iconst (pc := 22) (v := 1) B dM_readList_22 (by decide) ?_
        refine xg_icmp_lt (pc := 23) (tgt := 39) B dM_readList_23 (by decide) h (fun c23 h => ?_) (fun c23 h => ?_)
        · refine xg_sub (ls' := []) [] rfl ?_
          exact wM_readList_39 hl B  A6 h
        · refine xg_iload (pc := 26) (i := 4) B dM_readList_26 rfl ?_
          refine xg_bipush (pc := 28) (v := 12) B dM_readList_28 (by decide) ?_
          refine xg_icmp_gt (pc := 30) (tgt := 39) B dM_readList_30 (by decide) h (fun c30 h => ?_) (fun c30 h => ?_)
          · refine xg_sub (ls' := []) [] rfl ?_
            exact wM_readList_39 hl B  A6 h
          · refine xg_iload_n (pc := 33) (i := 2) B dM_readList_33 rfl rfl ?_
            refine xg_bipush (pc := 34) (v := 8) B dM_readList_34 (by decide) ?_
            refine xg_icmp_ne (pc := 36) (tgt := 41) B dM_readList_36 (by decide) h (fun c36 h => ?_) (fun c36 h => ?_)
            · refine xg_aload_n (pc := 41) (i := 0) (r := v0) B dM_readList_41 rfl rfl ?_
              refine xg_getr (pc := 42) B dM_readList_42 flM_37 h (fun x7 ex7 h => ?_)
              refine xg_iload (pc := 45) (i := 4) B dM_readList_45 rfl ?_
              refine xg_iconst (pc := 47) (v := 1) B dM_readList_47 (by decide) ?_
              refine xg_zastore (pc := 48) B dM_readList_48 h (fun A8 eA8 h => ?_)
              refine xg_aload_n (pc := 49) (i := 0) (r := v0) B dM_readList_49 rfl rfl ?_
              refine xg_iconst (pc := 50) (v := 1) B dM_readList_50 (by decide) ?_
              refine xg_putz (pc := 51) B dM_readList_51 (fpM_174 _) h (fun A9 eA9 h => ?_)
              refine xg_goto (pc := 54) (tgt := 80) B dM_readList_54 (by decide) ?_
              refine xg_sub (ls' := [(0, xj_rv v0), (1, .int v1), (2, .int v2)]) [1, 2, 3] rfl ?_
              exact wM_readList_80 hl B (fM_readList_4 n) (wM_readList_4 hl B n) v0 v1 v2 A9 h
            · refine xg_sub (ls' := []) [] rfl ?_
              exact wM_readList_39 hl B  A6 h
theorem wM_readList {l : Launch} (hl : l.stackTraces = false) {z : xj_F} (B : xj_B l yM_readList prog_11_method_28_code 5 (some .boolean) [] 4 z) (v0 : xj_Rf) (v1 : Int32) (A : xj_H) (h : fM_readList v0 v1 A = some (xf_r z)) : xj_W l z 0 [(0, xj_rv v0), (1, .int v1)] [] A := by
  unfold fM_readList at h
  refine xg_iconst (pc := 0) (v := 0) B dM_readList_0 (by decide) ?_
  refine xg_istore_n (pc := 1) (i := 2) (ls' := [(2, .int (0 : Int32)), (0, xj_rv v0), (1, .int v1)]) B dM_readList_1 rfl (by decide) ⟨xj_nq (a := 0) (i := 2) (by decide), fun _ => rfl, trivial⟩ rfl ?_
  refine xg_iconst (pc := 2) (v := 1) B dM_readList_2 (by decide) ?_
  refine xg_istore_n (pc := 3) (i := 3) (ls' := [(3, .int (1 : Int32)), (2, .int (0 : Int32)), (0, xj_rv v0), (1, .int v1)]) B dM_readList_3 rfl (by decide) ⟨fun _ => rfl, xj_nq (a := 0) (i := 3) (by decide), xj_nq (a := 1) (i := 3) (by decide), trivial⟩ rfl ?_
  refine xg_sub (ls' := [(0, xj_rv v0), (1, .int v1), (2, .int (0 : Int32)), (3, .int (1 : Int32))]) [2, 3, 1, 0] rfl ?_
  exact wM_readList_4 hl B xj_fu v0 v1 (0 : Int32) (1 : Int32) A h
theorem cM_readList {l : Launch} (hl : l.stackTraces = false) (v0 : xj_Rf) (v1 : Int32) (A : xj_H) (r : xj_R) (h : fM_readList v0 v1 A = some r) : xj_M l yM_readList prog_11_method_28_code 5 (some .boolean) [] 4 [xj_rv v0, .int v1] A r := by
  refine xj_M.of hl (by decide +kernel) (by simp [lg_sl, xj_ic, xj_lc, xj_rv_cat]) (fun z B hA hr => ?_)
  subst hr
  have hw := wM_readList hl B v0 v1 A h
  simpa [lv_args, xj_ic, xj_lc, xj_rv_cat] using hw
/-! RecurrenceBookModel.readPart()I -/
def fM_readPart_196 (s0 : Int32) (A : xj_H) : Option xj_R :=
  some (.inl (some (.int s0)), A)
def fM_readPart_195 (A : xj_H) : Option xj_R :=
  fM_readPart_196 (0 : Int32) A
def fM_readPart_173 (s0 : Int32) (A : xj_H) : Option xj_R :=
  some (.inl (some (.int s0)), A)
def fM_readPart_150 (s0 : Int32) (A : xj_H) : Option xj_R :=
  some (.inl (some (.int s0)), A)
def fM_readPart_127 (s0 : Int32) (A : xj_H) : Option xj_R :=
  some (.inl (some (.int s0)), A)
def fM_readPart_105 (s0 : Int32) (A : xj_H) : Option xj_R :=
  some (.inl (some (.int s0)), A)
def fM_readPart_68 (s0 : Int32) (A : xj_H) : Option xj_R :=
  some (.inl (some (.int s0)), A)
def fM_readPart_38 (s0 : Int32) (A : xj_H) : Option xj_R :=
  some (.inl (some (.int s0)), A)
def fM_readPart (v0 : xj_Rf) (A : xj_H) : Option xj_R :=
  xj_bl (xj_rq A v0 7 (fM_letters v0 (10 : Int32) A)) fun x1 A2 =>
  xj_bi (xj_rq A2 v0 7 (fM_takes v0 (61 : Int32) A2)) fun x3 A4 =>
  if ¬ x3 = 0 then
    if ¬ (lg_cmp x1 (215217 : Int64)) = 0 then
      if ¬ (lg_cmp x1 (324946974764 : Int64)) = 0 then
        if ¬ (lg_cmp x1 (3659220 : Int64)) = 0 then
          if ¬ (lg_cmp x1 (22499628 : Int64)) = 0 then
            if ¬ (lg_cmp x1 (2920505 : Int64)) = 0 then
              if ¬ (lg_cmp x1 (98319808598073 : Int64)) = 0 then
                if ¬ (lg_cmp x1 (3000482440 : Int64)) = 0 then
                  fM_readPart_195  A4
                else
                  xj_bi (xj_rq A4 v0 7 (fM_readList v0 (2 : Int32) A4)) fun x5 A6 =>
                  if x5 = 0 then
                    fM_readPart_195  A6
                  else
                    fM_readPart_196 (64 : Int32) A6
              else
                xj_bi (xj_rq A4 v0 7 (fM_readList v0 (1 : Int32) A4)) fun x7 A8 =>
                if x7 = 0 then
                  fM_readPart_173 (0 : Int32) A8
                else
                  fM_readPart_173 (32 : Int32) A8
            else
              xj_bi (xj_rq A4 v0 7 (fM_readList v0 (0 : Int32) A4)) fun x9 A10 =>
              if x9 = 0 then
                fM_readPart_150 (0 : Int32) A10
              else
                fM_readPart_150 (16 : Int32) A10
          else
            xj_bi (xj_rq A4 v0 7 (fM_readUntil v0 A4)) fun x11 A12 =>
            if x11 = 0 then
              fM_readPart_127 (0 : Int32) A12
            else
              fM_readPart_127 (8 : Int32) A12
        else
          xj_bi (xj_rq A4 v0 7 (fM_digits v0 (3 : Int32) A4)) fun x13 A14 =>
          (xj_pv A14 v0 7 17 (.int x13)).bind fun A15 =>
          (xj_gi A15 v0 7 17).bind fun x16 =>
          xj_bi (fM_inside x16 (1 : Int32) (200 : Int32) A15) fun x17 A18 =>
          if x17 = 0 then
            fM_readPart_105 (0 : Int32) A18
          else
            fM_readPart_105 (4 : Int32) A18
      else
        xj_bi (xj_rq A4 v0 7 (fM_digits v0 (2 : Int32) A4)) fun x19 A20 =>
        (xj_pv A20 v0 7 16 (.int x19)).bind fun A21 =>
        (xj_gi A21 v0 7 16).bind fun x22 =>
        if x22 ≤ 0 then
          fM_readPart_68 (0 : Int32) A21
        else
          fM_readPart_68 (2 : Int32) A21
    else
      xj_bi (xj_rq A4 v0 7 (fM_readFrequency v0 A4)) fun x23 A24 =>
      if x23 = 0 then
        fM_readPart_38 (0 : Int32) A24
      else
        fM_readPart_38 (1 : Int32) A24
  else
    some (.inl (some (.int (0 : Int32))), A4)
theorem wM_readPart_196 {l : Launch} (hl : l.stackTraces = false) {z : xj_F} (B : xj_B l yM_readPart prog_11_method_29_code 3 (some .int) [] 5 z) (s0 : Int32) (A : xj_H) (h : fM_readPart_196 s0 A = some (xf_r z)) : xj_W l z 196 [] [.int s0] A := by
  unfold fM_readPart_196 at h
  exact xg_iret B dM_readPart_196 h
theorem wM_readPart_195 {l : Launch} (hl : l.stackTraces = false) {z : xj_F} (B : xj_B l yM_readPart prog_11_method_29_code 3 (some .int) [] 5 z) (A : xj_H) (h : fM_readPart_195  A = some (xf_r z)) : xj_W l z 195 [] [] A := by
  unfold fM_readPart_195 at h
  refine xg_iconst (pc := 195) (v := 0) B dM_readPart_195 (by decide) ?_
  exact wM_readPart_196 hl B (0 : Int32) A h
theorem wM_readPart_173 {l : Launch} (hl : l.stackTraces = false) {z : xj_F} (B : xj_B l yM_readPart prog_11_method_29_code 3 (some .int) [] 5 z) (s0 : Int32) (A : xj_H) (h : fM_readPart_173 s0 A = some (xf_r z)) : xj_W l z 173 [] [.int s0] A := by
  unfold fM_readPart_173 at h
  exact xg_iret B dM_readPart_173 h
theorem wM_readPart_150 {l : Launch} (hl : l.stackTraces = false) {z : xj_F} (B : xj_B l yM_readPart prog_11_method_29_code 3 (some .int) [] 5 z) (s0 : Int32) (A : xj_H) (h : fM_readPart_150 s0 A = some (xf_r z)) : xj_W l z 150 [] [.int s0] A := by
  unfold fM_readPart_150 at h
  exact xg_iret B dM_readPart_150 h
theorem wM_readPart_127 {l : Launch} (hl : l.stackTraces = false) {z : xj_F} (B : xj_B l yM_readPart prog_11_method_29_code 3 (some .int) [] 5 z) (s0 : Int32) (A : xj_H) (h : fM_readPart_127 s0 A = some (xf_r z)) : xj_W l z 127 [] [.int s0] A := by
  unfold fM_readPart_127 at h
  exact xg_iret B dM_readPart_127 h
theorem wM_readPart_105 {l : Launch} (hl : l.stackTraces = false) {z : xj_F} (B : xj_B l yM_readPart prog_11_method_29_code 3 (some .int) [] 5 z) (s0 : Int32) (A : xj_H) (h : fM_readPart_105 s0 A = some (xf_r z)) : xj_W l z 105 [] [.int s0] A := by
  unfold fM_readPart_105 at h
  exact xg_iret B dM_readPart_105 h
theorem wM_readPart_68 {l : Launch} (hl : l.stackTraces = false) {z : xj_F} (B : xj_B l yM_readPart prog_11_method_29_code 3 (some .int) [] 5 z) (s0 : Int32) (A : xj_H) (h : fM_readPart_68 s0 A = some (xf_r z)) : xj_W l z 68 [] [.int s0] A := by
  unfold fM_readPart_68 at h
  exact xg_iret B dM_readPart_68 h
theorem wM_readPart_38 {l : Launch} (hl : l.stackTraces = false) {z : xj_F} (B : xj_B l yM_readPart prog_11_method_29_code 3 (some .int) [] 5 z) (s0 : Int32) (A : xj_H) (h : fM_readPart_38 s0 A = some (xf_r z)) : xj_W l z 38 [] [.int s0] A := by
  unfold fM_readPart_38 at h
  exact xg_iret B dM_readPart_38 h
theorem wM_readPart {l : Launch} (hl : l.stackTraces = false) {z : xj_F} (B : xj_B l yM_readPart prog_11_method_29_code 3 (some .int) [] 5 z) (v0 : xj_Rf) (A : xj_H) (h : fM_readPart v0 A = some (xf_r z)) : xj_W l z 0 [(0, xj_rv v0)] [] A := by
  unfold fM_readPart at h
  refine xg_aload_n (pc := 0) (i := 0) (r := v0) B dM_readPart_0 rfl rfl ?_
  refine xg_bipush (pc := 1) (v := 10) B dM_readPart_1 (by decide) ?_
  obtain ⟨hq3, h⟩ := xj_rq_l h
  refine xg_cl (pc := 3) (av := [xj_rv v0, .int (10 : Int32)]) (st := []) (cy := prog_11_method_21_code) (nLy := 5) (rety := (some .long)) (hsy := []) B dM_readPart_3 (xj_go_v B dM_readPart_3 vwM_126 rfl hq3) (xj_vw_c vwM_126) (xj_vw_i vwM_126) (by decide) (by decide) (by decide) rfl (fun r9 h9 => cM_letters hl _ _ _ r9 h9) h (fun x1 A2 eA2 h => ?_)
  refine xg_lstore_n (pc := 6) (i := 1) (ls' := [(1, .long x1), (0, xj_rv v0)]) B dM_readPart_6 rfl (by decide) ⟨fun _ => xj_rv_cat v0, trivial⟩ rfl ?_
  refine xg_aload_n (pc := 7) (i := 0) (r := v0) B dM_readPart_7 rfl rfl ?_
  refine xg_bipush (pc := 8) (v := 61) B dM_readPart_8 (by decide) ?_
  obtain ⟨hq10, h⟩ := xj_rq_i h
  refine xg_ci (pc := 10) (av := [xj_rv v0, .int (61 : Int32)]) (st := []) (cy := prog_11_method_20_code) (nLy := 3) (rety := (some .boolean)) (hsy := []) B dM_readPart_10 (xj_go_v B dM_readPart_10 vwM_161 rfl hq10) (xj_vw_c vwM_161) (xj_vw_i vwM_161) (by decide) (by decide) (by decide) rfl (fun r9 h9 => cM_takes hl _ _ _ r9 h9) h (fun x3 A4 eA4 h => ?_)
  refine xg_if_ne (pc := 13) (tgt := 18) B dM_readPart_13 (by decide) h (fun c13 h => ?_) (fun c13 h => ?_)
  · refine xg_lload_n (pc := 18) (i := 1) B dM_readPart_18 rfl rfl ?_
    refine xg_ldc2 (pc := 19) (v := 215217) B dM_readPart_19 kM_185 ?_
    refine xg_lcmp (pc := 22) B dM_readPart_22 ?_
    refine xg_if_ne (pc := 23) (tgt := 39) B dM_readPart_23 (by decide) h (fun c23 h => ?_) (fun c23 h => ?_)
    · refine xg_lload_n (pc := 39) (i := 1) B dM_readPart_39 rfl rfl ?_
      refine xg_ldc2 (pc := 40) (v := 324946974764) B dM_readPart_40 kM_190 ?_
      refine xg_lcmp (pc := 43) B dM_readPart_43 ?_
      refine xg_if_ne (pc := 44) (tgt := 69) B dM_readPart_44 (by decide) h (fun c44 h => ?_) (fun c44 h => ?_)
      · refine xg_lload_n (pc := 69) (i := 1) B dM_readPart_69 rfl rfl ?_
        refine xg_ldc2 (pc := 70) (v := 3659220) B dM_readPart_70 kM_195 ?_
        refine xg_lcmp (pc := 73) B dM_readPart_73 ?_
        refine xg_if_ne (pc := 74) (tgt := 106) B dM_readPart_74 (by decide) h (fun c74 h => ?_) (fun c74 h => ?_)
        · refine xg_lload_n (pc := 106) (i := 1) B dM_readPart_106 rfl rfl ?_
          refine xg_ldc2 (pc := 107) (v := 22499628) B dM_readPart_107 kM_200 ?_
          refine xg_lcmp (pc := 110) B dM_readPart_110 ?_
          refine xg_if_ne (pc := 111) (tgt := 128) B dM_readPart_111 (by decide) h (fun c111 h => ?_) (fun c111 h => ?_)
          · refine xg_lload_n (pc := 128) (i := 1) B dM_readPart_128 rfl rfl ?_
            refine xg_ldc2 (pc := 129) (v := 2920505) B dM_readPart_129 kM_205 ?_
            refine xg_lcmp (pc := 132) B dM_readPart_132 ?_
            refine xg_if_ne (pc := 133) (tgt := 151) B dM_readPart_133 (by decide) h (fun c133 h => ?_) (fun c133 h => ?_)
            · refine xg_lload_n (pc := 151) (i := 1) B dM_readPart_151 rfl rfl ?_
              refine xg_ldc2 (pc := 152) (v := 98319808598073) B dM_readPart_152 kM_210 ?_
              refine xg_lcmp (pc := 155) B dM_readPart_155 ?_
              refine xg_if_ne (pc := 156) (tgt := 174) B dM_readPart_156 (by decide) h (fun c156 h => ?_) (fun c156 h => ?_)
              · refine xg_lload_n (pc := 174) (i := 1) B dM_readPart_174 rfl rfl ?_
                refine xg_ldc2 (pc := 175) (v := 3000482440) B dM_readPart_175 kM_212 ?_
                refine xg_lcmp (pc := 178) B dM_readPart_178 ?_
                refine xg_if_ne (pc := 179) (tgt := 195) B dM_readPart_179 (by decide) h (fun c179 h => ?_) (fun c179 h => ?_)
                · refine xg_sub (ls' := []) [] rfl ?_
                  exact wM_readPart_195 hl B  A4 h
                · refine xg_aload_n (pc := 182) (i := 0) (r := v0) B dM_readPart_182 rfl rfl ?_
                  refine xg_iconst (pc := 183) (v := 2) B dM_readPart_183 (by decide) ?_
                  obtain ⟨hq184, h⟩ := xj_rq_i h
                  refine xg_ci (pc := 184) (av := [xj_rv v0, .int (2 : Int32)]) (st := []) (cy := prog_11_method_28_code) (nLy := 5) (rety := (some .boolean)) (hsy := []) B dM_readPart_184 (xj_go_v B dM_readPart_184 vwM_207 rfl hq184) (xj_vw_c vwM_207) (xj_vw_i vwM_207) (by decide) (by decide) (by decide) rfl (fun r9 h9 => cM_readList hl _ _ _ r9 h9) h (fun x5 A6 eA6 h => ?_)
                  refine xg_if_eq (pc := 187) (tgt := 195) B dM_readPart_187 (by decide) h (fun c187 h => ?_) (fun c187 h => ?_)
                  · refine xg_sub (ls' := []) [] rfl ?_
                    exact wM_readPart_195 hl B  A6 h
                  · refine xg_bipush (pc := 190) (v := 64) B dM_readPart_190 (by decide) ?_
                    refine xg_goto (pc := 192) (tgt := 196) B dM_readPart_192 (by decide) ?_
                    refine xg_sub (ls' := []) [] rfl ?_
                    exact wM_readPart_196 hl B (64 : Int32) A6 h
              · refine xg_aload_n (pc := 159) (i := 0) (r := v0) B dM_readPart_159 rfl rfl ?_
                refine xg_iconst (pc := 160) (v := 1) B dM_readPart_160 (by decide) ?_
                obtain ⟨hq161, h⟩ := xj_rq_i h
                refine xg_ci (pc := 161) (av := [xj_rv v0, .int (1 : Int32)]) (st := []) (cy := prog_11_method_28_code) (nLy := 5) (rety := (some .boolean)) (hsy := []) B dM_readPart_161 (xj_go_v B dM_readPart_161 vwM_207 rfl hq161) (xj_vw_c vwM_207) (xj_vw_i vwM_207) (by decide) (by decide) (by decide) rfl (fun r9 h9 => cM_readList hl _ _ _ r9 h9) h (fun x7 A8 eA8 h => ?_)
                refine xg_if_eq (pc := 164) (tgt := 172) B dM_readPart_164 (by decide) h (fun c164 h => ?_) (fun c164 h => ?_)
                · refine xg_iconst (pc := 172) (v := 0) B dM_readPart_172 (by decide) ?_
                  refine xg_sub (ls' := []) [] rfl ?_
                  exact wM_readPart_173 hl B (0 : Int32) A8 h
                · refine xg_bipush (pc := 167) (v := 32) B dM_readPart_167 (by decide) ?_
                  refine xg_goto (pc := 169) (tgt := 173) B dM_readPart_169 (by decide) ?_
                  refine xg_sub (ls' := []) [] rfl ?_
                  exact wM_readPart_173 hl B (32 : Int32) A8 h
            · refine xg_aload_n (pc := 136) (i := 0) (r := v0) B dM_readPart_136 rfl rfl ?_
              refine xg_iconst (pc := 137) (v := 0) B dM_readPart_137 (by decide) ?_
              obtain ⟨hq138, h⟩ := xj_rq_i h
              refine xg_ci (pc := 138) (av := [xj_rv v0, .int (0 : Int32)]) (st := []) (cy := prog_11_method_28_code) (nLy := 5) (rety := (some .boolean)) (hsy := []) B dM_readPart_138 (xj_go_v B dM_readPart_138 vwM_207 rfl hq138) (xj_vw_c vwM_207) (xj_vw_i vwM_207) (by decide) (by decide) (by decide) rfl (fun r9 h9 => cM_readList hl _ _ _ r9 h9) h (fun x9 A10 eA10 h => ?_)
              refine xg_if_eq (pc := 141) (tgt := 149) B dM_readPart_141 (by decide) h (fun c141 h => ?_) (fun c141 h => ?_)
              · refine xg_iconst (pc := 149) (v := 0) B dM_readPart_149 (by decide) ?_
                refine xg_sub (ls' := []) [] rfl ?_
                exact wM_readPart_150 hl B (0 : Int32) A10 h
              · refine xg_bipush (pc := 144) (v := 16) B dM_readPart_144 (by decide) ?_
                refine xg_goto (pc := 146) (tgt := 150) B dM_readPart_146 (by decide) ?_
                refine xg_sub (ls' := []) [] rfl ?_
                exact wM_readPart_150 hl B (16 : Int32) A10 h
          · refine xg_aload_n (pc := 114) (i := 0) (r := v0) B dM_readPart_114 rfl rfl ?_
            obtain ⟨hq115, h⟩ := xj_rq_i h
            refine xg_ci (pc := 115) (av := [xj_rv v0]) (st := []) (cy := prog_11_method_24_code) (nLy := 6) (rety := (some .boolean)) (hsy := []) B dM_readPart_115 (xj_go_v B dM_readPart_115 vwM_202 rfl hq115) (xj_vw_c vwM_202) (xj_vw_i vwM_202) (by decide) (by decide) (by decide) rfl (fun r9 h9 => cM_readUntil hl _ _ r9 h9) h (fun x11 A12 eA12 h => ?_)
            refine xg_if_eq (pc := 118) (tgt := 126) B dM_readPart_118 (by decide) h (fun c118 h => ?_) (fun c118 h => ?_)
            · refine xg_iconst (pc := 126) (v := 0) B dM_readPart_126 (by decide) ?_
              refine xg_sub (ls' := []) [] rfl ?_
              exact wM_readPart_127 hl B (0 : Int32) A12 h
            · refine xg_bipush (pc := 121) (v := 8) B dM_readPart_121 (by decide) ?_
              refine xg_goto (pc := 123) (tgt := 127) B dM_readPart_123 (by decide) ?_
              refine xg_sub (ls' := []) [] rfl ?_
              exact wM_readPart_127 hl B (8 : Int32) A12 h
        · refine xg_aload_n (pc := 77) (i := 0) (r := v0) B dM_readPart_77 rfl rfl ?_
          refine xg_aload_n (pc := 78) (i := 0) (r := v0) B dM_readPart_78 rfl rfl ?_
          refine xg_iconst (pc := 79) (v := 3) B dM_readPart_79 (by decide) ?_
          obtain ⟨hq80, h⟩ := xj_rq_i h
          refine xg_ci (pc := 80) (av := [xj_rv v0, .int (3 : Int32)]) (st := [xj_rv v0]) (cy := prog_11_method_22_code) (nLy := 4) (rety := (some .int)) (hsy := []) B dM_readPart_80 (xj_go_v B dM_readPart_80 vwM_141 rfl hq80) (xj_vw_c vwM_141) (xj_vw_i vwM_141) (by decide) (by decide) (by simp [xj_ic, xj_lc, xj_rv_cat]) rfl (fun r9 h9 => cM_digits hl _ _ _ r9 h9) h (fun x13 A14 eA14 h => ?_)
          refine xg_puti (pc := 83) B dM_readPart_83 (fpM_197 _) h (fun A15 eA15 h => ?_)
          refine xg_aload_n (pc := 86) (i := 0) (r := v0) B dM_readPart_86 rfl rfl ?_
          refine xg_geti (pc := 87) B dM_readPart_87 flM_197 h (fun x16 ex16 h => ?_)
          refine xg_iconst (pc := 90) (v := 1) B dM_readPart_90 (by decide) ?_
          refine xg_sipush (pc := 91) (v := 200) B dM_readPart_91 (by decide) ?_
          refine xg_ci (pc := 94) (av := [.int x16, .int (1 : Int32), .int (200 : Int32)]) (st := []) (cy := prog_11_method_13_code) (nLy := 3) (rety := (some .boolean)) (hsy := []) B dM_readPart_94 (xj_go_s B dM_readPart_94 swM_101 rfl) swM_101.2.2.1 swM_101.2.2.2.1 (by decide) (by decide) (by decide) rfl (fun r9 h9 => cM_inside hl _ _ _ _ r9 h9) h (fun x17 A18 eA18 h => ?_)
          refine xg_if_eq (pc := 97) (tgt := 104) B dM_readPart_97 (by decide) h (fun c97 h => ?_) (fun c97 h => ?_)
          · refine xg_iconst (pc := 104) (v := 0) B dM_readPart_104 (by decide) ?_
            refine xg_sub (ls' := []) [] rfl ?_
            exact wM_readPart_105 hl B (0 : Int32) A18 h
          · refine xg_iconst (pc := 100) (v := 4) B dM_readPart_100 (by decide) ?_
            refine xg_goto (pc := 101) (tgt := 105) B dM_readPart_101 (by decide) ?_
            refine xg_sub (ls' := []) [] rfl ?_
            exact wM_readPart_105 hl B (4 : Int32) A18 h
      · refine xg_aload_n (pc := 47) (i := 0) (r := v0) B dM_readPart_47 rfl rfl ?_
        refine xg_aload_n (pc := 48) (i := 0) (r := v0) B dM_readPart_48 rfl rfl ?_
        refine xg_iconst (pc := 49) (v := 2) B dM_readPart_49 (by decide) ?_
        obtain ⟨hq50, h⟩ := xj_rq_i h
        refine xg_ci (pc := 50) (av := [xj_rv v0, .int (2 : Int32)]) (st := [xj_rv v0]) (cy := prog_11_method_22_code) (nLy := 4) (rety := (some .int)) (hsy := []) B dM_readPart_50 (xj_go_v B dM_readPart_50 vwM_141 rfl hq50) (xj_vw_c vwM_141) (xj_vw_i vwM_141) (by decide) (by decide) (by simp [xj_ic, xj_lc, xj_rv_cat]) rfl (fun r9 h9 => cM_digits hl _ _ _ r9 h9) h (fun x19 A20 eA20 h => ?_)
        refine xg_puti (pc := 53) B dM_readPart_53 (fpM_192 _) h (fun A21 eA21 h => ?_)
        refine xg_aload_n (pc := 56) (i := 0) (r := v0) B dM_readPart_56 rfl rfl ?_
        refine xg_geti (pc := 57) B dM_readPart_57 flM_192 h (fun x22 ex22 h => ?_)
        refine xg_if_le (pc := 60) (tgt := 67) B dM_readPart_60 (by decide) h (fun c60 h => ?_) (fun c60 h => ?_)
        · refine xg_iconst (pc := 67) (v := 0) B dM_readPart_67 (by decide) ?_
          refine xg_sub (ls' := []) [] rfl ?_
          exact wM_readPart_68 hl B (0 : Int32) A21 h
        · refine xg_iconst (pc := 63) (v := 2) B dM_readPart_63 (by decide) ?_
          refine xg_goto (pc := 64) (tgt := 68) B dM_readPart_64 (by decide) ?_
          refine xg_sub (ls' := []) [] rfl ?_
          exact wM_readPart_68 hl B (2 : Int32) A21 h
    · refine xg_aload_n (pc := 26) (i := 0) (r := v0) B dM_readPart_26 rfl rfl ?_
      obtain ⟨hq27, h⟩ := xj_rq_i h
      refine xg_ci (pc := 27) (av := [xj_rv v0]) (st := []) (cy := prog_11_method_23_code) (nLy := 3) (rety := (some .boolean)) (hsy := []) B dM_readPart_27 (xj_go_v B dM_readPart_27 vwM_187 rfl hq27) (xj_vw_c vwM_187) (xj_vw_i vwM_187) (by decide) (by decide) (by decide) rfl (fun r9 h9 => cM_readFrequency hl _ _ r9 h9) h (fun x23 A24 eA24 h => ?_)
      refine xg_if_eq (pc := 30) (tgt := 37) B dM_readPart_30 (by decide) h (fun c30 h => ?_) (fun c30 h => ?_)
      · refine xg_iconst (pc := 37) (v := 0) B dM_readPart_37 (by decide) ?_
        refine xg_sub (ls' := []) [] rfl ?_
        exact wM_readPart_38 hl B (0 : Int32) A24 h
      · refine xg_iconst (pc := 33) (v := 1) B dM_readPart_33 (by decide) ?_
        refine xg_goto (pc := 34) (tgt := 38) B dM_readPart_34 (by decide) ?_
        refine xg_sub (ls' := []) [] rfl ?_
        exact wM_readPart_38 hl B (1 : Int32) A24 h
  · refine xg_iconst (pc := 16) (v := 0) B dM_readPart_16 (by decide) ?_
    exact xg_iret B dM_readPart_17 h
theorem cM_readPart {l : Launch} (hl : l.stackTraces = false) (v0 : xj_Rf) (A : xj_H) (r : xj_R) (h : fM_readPart v0 A = some r) : xj_M l yM_readPart prog_11_method_29_code 3 (some .int) [] 5 [xj_rv v0] A r := by
  refine xj_M.of hl (by decide +kernel) (by simp [lg_sl, xj_ic, xj_lc, xj_rv_cat]) (fun z B hA hr => ?_)
  subst hr
  have hw := wM_readPart hl B v0 A h
  simpa [lv_args, xj_ic, xj_lc, xj_rv_cat] using hw

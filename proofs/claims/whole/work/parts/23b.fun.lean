/-! RecurrenceBook$RuleReader.readRule()Z -/
def fQ_readRule_29 : Nat → xj_Rf → Int32 → xj_H → Option xj_R
  | 0, _, _, _ => none
  | n + 1, v0, v1, A =>
    if (7 : Int32) ≤ v1 then
      xj_rz (0 : Int32) A
    else
      xj_bi (xj_rq A v0 5 (fQ_readPart v0 A)) fun x1 A2 =>
      if ¬ x1 = 0 then
        (xj_gi A2 v0 5 2).bind fun x3 =>
        (xj_gi A2 v0 5 1).bind fun x4 =>
        if x3 < x4 then
          xj_bi (xj_rq A2 v0 5 (fQ_take v0 (59 : Int32) A2)) fun x5 A6 =>
          if ¬ x5 = 0 then
            (fQ_readRule_29 n) v0 (v1 + 1) A6
          else
            xj_rz (0 : Int32) A6
        else
          (xj_gr A2 v0 5 3).bind fun x7 =>
          xj_bi (xj_rq A2 x7 4 (fR_isAllowed x7 A2)) fun x8 A9 =>
          xj_rz x8 A9
      else
        xj_rz (0 : Int32) A2
def fQ_readRule (v0 : xj_Rf) (A : xj_H) : Option xj_R :=
  (xj_gi A v0 5 1).bind fun x1 =>
  if ¬ x1 = 0 then
    fQ_readRule_29 xj_fu v0 (0 : Int32) A
  else
    (xj_gr A v0 5 3).bind fun x2 =>
    (xj_pv A x2 4 0 (xj_rv (some (.inr 0)))).bind fun A3 =>
    (xj_gr A3 v0 5 3).bind fun x4 =>
    (xj_pv A3 x4 4 2 (.int (1 : Int32))).bind fun A5 =>
    xj_rz (1 : Int32) A5
theorem wQ_readRule_29 {l : Launch} (hl : l.stackTraces = false) {z : xj_F} (B : xj_B l yQ_readRule prog_6_method_2_code 2 (some .boolean) [] 9 z) : ∀ (n : Nat) (v0 : xj_Rf) (v1 : Int32) (A : xj_H), fQ_readRule_29 n v0 v1 A = some (xf_r z) → xj_W l z 29 [(0, xj_rv v0), (1, .int v1)] [] A
  | 0, _, _, _, h => by simp [fQ_readRule_29] at h
  | n + 1, v0, v1, A, h => by
    rw [fQ_readRule_29] at h
    refine xg_iload_n (pc := 29) (i := 1) B dQ_readRule_29 rfl rfl ?_
    refine xg_bipush (pc := 30) (v := 7) B dQ_readRule_30 (by decide) ?_
    refine xg_icmp_ge (pc := 32) (tgt := 80) B dQ_readRule_32 (by decide) h (fun c32 h => ?_) (fun c32 h => ?_)
    · refine xg_iconst (pc := 80) (v := 0) B dQ_readRule_80 (by decide) ?_
      exact xg_zret B dQ_readRule_81 h
    · refine xg_aload_n (pc := 35) (i := 0) (r := v0) B dQ_readRule_35 rfl rfl ?_
      obtain ⟨hq36, h⟩ := xj_rq_i h
      refine xg_ci (pc := 36) (av := [xj_rv v0]) (st := []) (cy := prog_6_method_3_code) (nLy := 1) (rety := (some .boolean)) (hsy := []) B dQ_readRule_36 (xj_go_v B dQ_readRule_36 vwQ_41 rfl hq36) (xj_vw_c vwQ_41) (xj_vw_i vwQ_41) (by decide) (by decide) (by decide) rfl (fun r9 h9 => cQ_readPart hl _ _ r9 h9) h (fun x1 A2 eA2 h => ?_)
      refine xg_if_ne (pc := 39) (tgt := 44) B dQ_readRule_39 (by decide) h (fun c39 h => ?_) (fun c39 h => ?_)
      · refine xg_aload_n (pc := 44) (i := 0) (r := v0) B dQ_readRule_44 rfl rfl ?_
        refine xg_geti (pc := 45) B dQ_readRule_45 flQ_19 h (fun x3 ex3 h => ?_)
        refine xg_aload_n (pc := 48) (i := 0) (r := v0) B dQ_readRule_48 rfl rfl ?_
        refine xg_geti (pc := 49) B dQ_readRule_49 flQ_15 h (fun x4 ex4 h => ?_)
        refine xg_icmp_lt (pc := 52) (tgt := 63) B dQ_readRule_52 (by decide) h (fun c52 h => ?_) (fun c52 h => ?_)
        · refine xg_aload_n (pc := 63) (i := 0) (r := v0) B dQ_readRule_63 rfl rfl ?_
          refine xg_bipush (pc := 64) (v := 59) B dQ_readRule_64 (by decide) ?_
          obtain ⟨hq66, h⟩ := xj_rq_i h
          refine xg_ci (pc := 66) (av := [xj_rv v0, .int (59 : Int32)]) (st := []) (cy := prog_6_method_15_code) (nLy := 2) (rety := (some .boolean)) (hsy := []) B dQ_readRule_66 (xj_go_v B dQ_readRule_66 vwQ_48 rfl hq66) (xj_vw_c vwQ_48) (xj_vw_i vwQ_48) (by decide) (by decide) (by decide) rfl (fun r9 h9 => cQ_take hl _ _ _ r9 h9) h (fun x5 A6 eA6 h => ?_)
          refine xg_if_ne (pc := 69) (tgt := 74) B dQ_readRule_69 (by decide) h (fun c69 h => ?_) (fun c69 h => ?_)
          · refine xg_iinc (pc := 74) (i := 1) (v := (v1 + 1)) (ls' := [(1, .int (v1 + 1)), (0, xj_rv v0)]) B dQ_readRule_74 rfl (xj_inc_1 _) (by decide) ⟨fun _ => xj_rv_cat v0, xj_nq (a := 1) (i := 1) (by decide), trivial⟩ rfl ?_
            refine xg_goto (pc := 77) (tgt := 29) B dQ_readRule_77 (by decide) ?_
            refine xg_sub (ls' := [(0, xj_rv v0), (1, .int (v1 + 1))]) [1, 0] rfl ?_
            exact (wQ_readRule_29 hl B n) v0 (v1 + 1) A6 h
          · refine xg_iconst (pc := 72) (v := 0) B dQ_readRule_72 (by decide) ?_
            exact xg_zret B dQ_readRule_73 h
        · refine xg_aload_n (pc := 55) (i := 0) (r := v0) B dQ_readRule_55 rfl rfl ?_
          refine xg_getr (pc := 56) B dQ_readRule_56 flQ_25 h (fun x7 ex7 h => ?_)
          obtain ⟨hq59, h⟩ := xj_rq_i h
          refine xg_ci (pc := 59) (av := [xj_rv x7]) (st := []) (cy := prog_5_method_11_code) (nLy := 2) (rety := (some .boolean)) (hsy := []) B dQ_readRule_59 (xj_go_v B dQ_readRule_59 vwQ_45 rfl hq59) (xj_vw_c vwQ_45) (xj_vw_i vwQ_45) (by decide) (by decide) (by decide) rfl (fun r9 h9 => cR_isAllowed hl _ _ r9 h9) h (fun x8 A9 eA9 h => ?_)
          exact xg_zret B dQ_readRule_62 h
      · refine xg_iconst (pc := 42) (v := 0) B dQ_readRule_42 (by decide) ?_
        exact xg_zret B dQ_readRule_43 h
theorem wQ_readRule {l : Launch} (hl : l.stackTraces = false) {z : xj_F} (B : xj_B l yQ_readRule prog_6_method_2_code 2 (some .boolean) [] 9 z) (v0 : xj_Rf) (A : xj_H) (h : fQ_readRule v0 A = some (xf_r z)) : xj_W l z 0 [(0, xj_rv v0)] [] A := by
  unfold fQ_readRule at h
  refine xg_aload_n (pc := 0) (i := 0) (r := v0) B dQ_readRule_0 rfl rfl ?_
  refine xg_geti (pc := 1) B dQ_readRule_1 flQ_15 h (fun x1 ex1 h => ?_)
  refine xg_if_ne (pc := 4) (tgt := 27) B dQ_readRule_4 (by decide) h (fun c4 h => ?_) (fun c4 h => ?_)
  · refine xg_iconst (pc := 27) (v := 0) B dQ_readRule_27 (by decide) ?_
    refine xg_istore_n (pc := 28) (i := 1) (ls' := [(1, .int (0 : Int32)), (0, xj_rv v0)]) B dQ_readRule_28 rfl (by decide) ⟨fun _ => xj_rv_cat v0, trivial⟩ rfl ?_
    refine xg_sub (ls' := [(0, xj_rv v0), (1, .int (0 : Int32))]) [1, 0] rfl ?_
    exact wQ_readRule_29 hl B xj_fu v0 (0 : Int32) A h
  · refine xg_aload_n (pc := 7) (i := 0) (r := v0) B dQ_readRule_7 rfl rfl ?_
    refine xg_getr (pc := 8) B dQ_readRule_8 flQ_25 h (fun x2 ex2 h => ?_)
    refine xg_gete (pc := 11) (i := 0) B dQ_readRule_11 (by decide) gsQ_29 ?_
    refine xg_putr (pc := 14) B (Or.inl ⟨_, rfl⟩) dQ_readRule_14 (fpQ_35 _) h (fun A3 eA3 h => ?_)
    refine xg_aload_n (pc := 17) (i := 0) (r := v0) B dQ_readRule_17 rfl rfl ?_
    refine xg_getr (pc := 18) B dQ_readRule_18 flQ_25 h (fun x4 ex4 h => ?_)
    refine xg_iconst (pc := 21) (v := 1) B dQ_readRule_21 (by decide) ?_
    refine xg_puti (pc := 22) B dQ_readRule_22 (fpQ_38 _) h (fun A5 eA5 h => ?_)
    refine xg_iconst (pc := 25) (v := 1) B dQ_readRule_25 (by decide) ?_
    exact xg_zret B dQ_readRule_26 h
theorem cQ_readRule {l : Launch} (hl : l.stackTraces = false) (v0 : xj_Rf) (A : xj_H) (r : xj_R) (h : fQ_readRule v0 A = some r) : xj_M l yQ_readRule prog_6_method_2_code 2 (some .boolean) [] 9 [xj_rv v0] A r := by
  refine xj_M.of hl (by decide +kernel) (by simp [lg_sl, xj_ic, xj_lc, xj_rv_cat]) (fun z B hA hr => ?_)
  subst hr
  have hw := wQ_readRule hl B v0 A h
  simpa [lv_args, xj_ic, xj_lc, xj_rv_cat] using hw
/-! RecurrenceBook$Dates.monthOf(I)I -/
def fD_monthOf_37 (s0 : Int32) (A : xj_H) : Option xj_R :=
  some (.inl (some (.int s0)), A)
def fD_monthOf (v0 : Int32) (A : xj_H) : Option xj_R :=
  xj_bi (fD_yearOf v0 A) fun x1 A2 =>
  xj_bi (fD_monthStart ((12 : Int32) * x1) A2) fun x3 A4 =>
  xj_bi (fD_monthStart ((((12 : Int32) * x1) + ((v0 - x3) / (31 : Int32))) + (1 : Int32)) A4) fun x5 A6 =>
  if v0 < x5 then
    fD_monthOf_37 (((12 : Int32) * x1) + ((v0 - x3) / (31 : Int32))) A6
  else
    fD_monthOf_37 ((((12 : Int32) * x1) + ((v0 - x3) / (31 : Int32))) + (1 : Int32)) A6
theorem wD_monthOf_37 {l : Launch} (hl : l.stackTraces = false) {z : xj_F} (B : xj_B l yD_monthOf prog_2_method_5_code 3 (some .int) [] 3 z) (s0 : Int32) (A : xj_H) (h : fD_monthOf_37 s0 A = some (xf_r z)) : xj_W l z 37 [] [.int s0] A := by
  unfold fD_monthOf_37 at h
  exact xg_iret B dD_monthOf_37 h
theorem wD_monthOf {l : Launch} (hl : l.stackTraces = false) {z : xj_F} (B : xj_B l yD_monthOf prog_2_method_5_code 3 (some .int) [] 3 z) (v0 : Int32) (A : xj_H) (h : fD_monthOf v0 A = some (xf_r z)) : xj_W l z 0 [(0, .int v0)] [] A := by
  unfold fD_monthOf at h
  refine xg_bipush (pc := 0) (v := 12) B dD_monthOf_0 (by decide) ?_
  refine xg_iload_n (pc := 2) (i := 0) B dD_monthOf_2 rfl rfl ?_
  refine xg_ci (pc := 3) (av := [.int v0]) (st := [.int (12 : Int32)]) (cy := prog_2_method_3_code) (nLy := 1) (rety := (some .int)) (hsy := []) B dD_monthOf_3 (xj_go_s B dD_monthOf_3 swD_21 rfl) swD_21.2.2.1 swD_21.2.2.2.1 (by decide) (by decide) (by simp [xj_ic, xj_lc, xj_rv_cat]) rfl (fun r9 h9 => cD_yearOf hl _ _ r9 h9) h (fun x1 A2 eA2 h => ?_)
  refine xg_imul (pc := 6) B dD_monthOf_6 ?_
  refine xg_istore_n (pc := 7) (i := 1) (ls' := [(1, .int ((12 : Int32) * x1)), (0, .int v0)]) B dD_monthOf_7 rfl (by decide) ⟨fun _ => rfl, trivial⟩ rfl ?_
  refine xg_iload_n (pc := 8) (i := 1) B dD_monthOf_8 rfl rfl ?_
  refine xg_iload_n (pc := 9) (i := 0) B dD_monthOf_9 rfl rfl ?_
  refine xg_iload_n (pc := 10) (i := 1) B dD_monthOf_10 rfl rfl ?_
  refine xg_ci (pc := 11) (av := [.int ((12 : Int32) * x1)]) (st := [.int v0, .int ((12 : Int32) * x1)]) (cy := prog_2_method_4_code) (nLy := 4) (rety := (some .int)) (hsy := []) B dD_monthOf_11 (xj_go_s B dD_monthOf_11 swD_25 rfl) swD_25.2.2.1 swD_25.2.2.2.1 (by decide) (by decide) (by simp [xj_ic, xj_lc, xj_rv_cat]) rfl (fun r9 h9 => cD_monthStart hl _ _ r9 h9) h (fun x3 A4 eA4 h => ?_)
  refine xg_isub (pc := 14) B dD_monthOf_14 ?_
  refine xg_bipush (pc := 15) (v := 31) B dD_monthOf_15 (by decide) ?_
  refine xg_idiv (pc := 17) B dD_monthOf_17 (by decide) ?_
  refine xg_iadd (pc := 18) B dD_monthOf_18 ?_
  refine xg_istore_n (pc := 19) (i := 2) (ls' := [(2, .int (((12 : Int32) * x1) + ((v0 - x3) / (31 : Int32)))), (1, .int ((12 : Int32) * x1)), (0, .int v0)]) B dD_monthOf_19 rfl (by decide) ⟨fun _ => rfl, xj_nq (a := 0) (i := 2) (by decide), trivial⟩ rfl ?_
  refine xg_iload_n (pc := 20) (i := 2) B dD_monthOf_20 rfl rfl ?_
  refine xg_iconst (pc := 21) (v := 1) B dD_monthOf_21 (by decide) ?_
  refine xg_iadd (pc := 22) B dD_monthOf_22 ?_
  refine xg_ci (pc := 23) (av := [.int ((((12 : Int32) * x1) + ((v0 - x3) / (31 : Int32))) + (1 : Int32))]) (st := []) (cy := prog_2_method_4_code) (nLy := 4) (rety := (some .int)) (hsy := []) B dD_monthOf_23 (xj_go_s B dD_monthOf_23 swD_25 rfl) swD_25.2.2.1 swD_25.2.2.2.1 (by decide) (by decide) (by decide) rfl (fun r9 h9 => cD_monthStart hl _ _ r9 h9) h (fun x5 A6 eA6 h => ?_)
  refine xg_iload_n (pc := 26) (i := 0) B dD_monthOf_26 rfl rfl ?_
  refine xg_icmp_gt (pc := 27) (tgt := 36) B dD_monthOf_27 (by decide) h (fun c27 h => ?_) (fun c27 h => ?_)
  · refine xg_iload_n (pc := 36) (i := 2) B dD_monthOf_36 rfl rfl ?_
    refine xg_sub (ls' := []) [] rfl ?_
    exact wD_monthOf_37 hl B (((12 : Int32) * x1) + ((v0 - x3) / (31 : Int32))) A6 h
  · refine xg_iload_n (pc := 30) (i := 2) B dD_monthOf_30 rfl rfl ?_
    refine xg_iconst (pc := 31) (v := 1) B dD_monthOf_31 (by decide) ?_
    refine xg_iadd (pc := 32) B dD_monthOf_32 ?_
    refine xg_goto (pc := 33) (tgt := 37) B dD_monthOf_33 (by decide) ?_
    refine xg_sub (ls' := []) [] rfl ?_
    exact wD_monthOf_37 hl B ((((12 : Int32) * x1) + ((v0 - x3) / (31 : Int32))) + (1 : Int32)) A6 h
theorem cD_monthOf {l : Launch} (hl : l.stackTraces = false) (v0 : Int32) (A : xj_H) (r : xj_R) (h : fD_monthOf v0 A = some r) : xj_M l yD_monthOf prog_2_method_5_code 3 (some .int) [] 3 [.int v0] A r := by
  refine xj_M.of hl (by decide +kernel) (by simp [lg_sl, xj_ic, xj_lc, xj_rv_cat]) (fun z B hA hr => ?_)
  subst hr
  have hw := wD_monthOf hl B v0 A h
  simpa [lv_args, xj_ic, xj_lc, xj_rv_cat] using hw
/-! RecurrenceBook$Unfolding.<init>(LRecurrenceBook$Rule;I[I)V -/
def fU_init_82 (v0 : xj_Rf) (s0 : Int32) (s1 : Int32) (s2 : xj_Rf) (A : xj_H) : Option xj_R :=
  xj_bi (fJ_min s1 s0 A) fun x1 A2 =>
  (xj_pv A2 s2 6 6 (.int x1)).bind fun A3 =>
  (xj_pv A3 v0 6 8 (.int (0 : Int32))).bind fun A4 =>
  some (.inl none, A4)
def fU_init (v0 : xj_Rf) (v1 : xj_Rf) (v2 : Int32) (v3 : xj_Rf) (A : xj_H) : Option xj_R :=
  if xj_isw v0 = true then
  (xj_pv A v0 6 0 (xj_rv v1)).bind fun A1 =>
  (xj_pv A1 v0 6 1 (.int v2)).bind fun A2 =>
  (xj_pv A2 v0 6 7 (xj_rv v3)).bind fun A3 =>
  xj_bi (fD_monthOf v2 A3) fun x4 A5 =>
  (xj_pv A5 v0 6 2 (.int x4)).bind fun A6 =>
  (xj_gi A6 v0 6 2).bind fun x7 =>
  xj_bi (fD_monthStart x7 A6) fun x8 A9 =>
  (xj_pv A9 v0 6 3 (.int ((v2 - x8) + (1 : Int32)))).bind fun A10 =>
  xj_bi (fD_weekdayOf v2 A10) fun x11 A12 =>
  (xj_pv A12 v0 6 4 (.int x11)).bind fun A13 =>
  (xj_gi A13 v1 4 1).bind fun x14 =>
  xj_bi (fJ_max (1 : Int32) x14 A13) fun x15 A16 =>
  (xj_pv A16 v0 6 5 (.int x15)).bind fun A17 =>
  (xj_len A17 v3 0).bind fun x18 =>
  (xj_gi A17 v1 4 2).bind fun x19 =>
  if ¬ x19 = 0 then
    (xj_gi A17 v1 4 2).bind fun x20 =>
    fU_init_82 v0 x20 x18 v0 A17
  else
    fU_init_82 v0 (200 : Int32) x18 v0 A17
  else none
theorem wU_init_82 {l : Launch} (hl : l.stackTraces = false) {z : xj_F} (B : xj_B l yU_init prog_8_method_1_code 4 none [] 4 z) (v0 : xj_Rf) (s0 : Int32) (s1 : Int32) (s2 : xj_Rf) (A : xj_H) (h : fU_init_82 v0 s0 s1 s2 A = some (xf_r z)) : xj_W l z 82 [(0, xj_rv v0)] [.int s0, .int s1, xj_rv s2] A := by
  unfold fU_init_82 at h
  refine xg_ci (pc := 82) (av := [.int s1, .int s0]) (st := [xj_rv s2]) (cy := prog_16_method_69_code) (nLy := 2) (rety := (some .int)) (hsy := []) B dU_init_82 (xj_go_s B dU_init_82 swU_59 rfl) swU_59.2.2.1 swU_59.2.2.2.1 (by decide) (by decide) (by simp [xj_ic, xj_lc, xj_rv_cat]) rfl (fun r9 h9 => cJ_min hl _ _ _ r9 h9) h (fun x1 A2 eA2 h => ?_)
  refine xg_puti (pc := 85) B dU_init_85 fpU_62 h (fun A3 eA3 h => ?_)
  refine xg_aload_n (pc := 88) (i := 0) (r := v0) B dU_init_88 rfl rfl ?_
  refine xg_iconst (pc := 89) (v := 0) B dU_init_89 (by decide) ?_
  refine xg_puti (pc := 90) B dU_init_90 (fpU_65 _) h (fun A4 eA4 h => ?_)
  exact xg_vret B dU_init_93 h
theorem wU_init {l : Launch} (hl : l.stackTraces = false) {z : xj_F} (B : xj_B l yU_init prog_8_method_1_code 4 none [] 4 z) (v0 : xj_Rf) (v1 : xj_Rf) (v2 : Int32) (v3 : xj_Rf) (A : xj_H) (h : fU_init v0 v1 v2 v3 A = some (xf_r z)) : xj_W l z 0 [(0, xj_rv v0), (1, xj_rv v1), (2, .int v2), (3, xj_rv v3)] [] A := by
  unfold fU_init at h
  refine xg_aload_n (pc := 0) (i := 0) (r := v0) B dU_init_0 rfl rfl ?_
  obtain ⟨a1, ha1, h⟩ := xj_isw_inv h
  refine xg_objInit (pc := 1) B ha1 dU_init_1 owU_3 ow_i ow_c (by decide) (by decide) ?_
  refine xg_aload_n (pc := 4) (i := 0) (r := v0) B dU_init_4 rfl rfl ?_
  refine xg_aload_n (pc := 5) (i := 1) (r := v1) B dU_init_5 rfl rfl ?_
  refine xg_putr (pc := 6) B (Or.inl ⟨_, rfl⟩) dU_init_6 fpU_9 h (fun A1 eA1 h => ?_)
  refine xg_aload_n (pc := 9) (i := 0) (r := v0) B dU_init_9 rfl rfl ?_
  refine xg_iload_n (pc := 10) (i := 2) B dU_init_10 rfl rfl ?_
  refine xg_puti (pc := 11) B dU_init_11 fpU_15 h (fun A2 eA2 h => ?_)
  refine xg_aload_n (pc := 14) (i := 0) (r := v0) B dU_init_14 rfl rfl ?_
  refine xg_aload_n (pc := 15) (i := 3) (r := v3) B dU_init_15 rfl rfl ?_
  refine xg_putr (pc := 16) B (Or.inr ⟨_, rfl⟩) dU_init_16 fpU_19 h (fun A3 eA3 h => ?_)
  refine xg_aload_n (pc := 19) (i := 0) (r := v0) B dU_init_19 rfl rfl ?_
  refine xg_iload_n (pc := 20) (i := 2) B dU_init_20 rfl rfl ?_
  refine xg_ci (pc := 21) (av := [.int v2]) (st := [xj_rv v0]) (cy := prog_2_method_5_code) (nLy := 3) (rety := (some .int)) (hsy := []) B dU_init_21 (xj_go_s B dU_init_21 swU_23 rfl) swU_23.2.2.1 swU_23.2.2.2.1 (by decide) (by decide) (by simp [xj_ic, xj_lc, xj_rv_cat]) rfl (fun r9 h9 => cD_monthOf hl _ _ r9 h9) h (fun x4 A5 eA5 h => ?_)
  refine xg_puti (pc := 24) B dU_init_24 fpU_29 h (fun A6 eA6 h => ?_)
  refine xg_aload_n (pc := 27) (i := 0) (r := v0) B dU_init_27 rfl rfl ?_
  refine xg_iload_n (pc := 28) (i := 2) B dU_init_28 rfl rfl ?_
  refine xg_aload_n (pc := 29) (i := 0) (r := v0) B dU_init_29 rfl rfl ?_
  refine xg_geti (pc := 30) B dU_init_30 flU_29 h (fun x7 ex7 h => ?_)
  refine xg_ci (pc := 33) (av := [.int x7]) (st := [.int v2, xj_rv v0]) (cy := prog_2_method_4_code) (nLy := 4) (rety := (some .int)) (hsy := []) B dU_init_33 (xj_go_s B dU_init_33 swU_32 rfl) swU_32.2.2.1 swU_32.2.2.2.1 (by decide) (by decide) (by simp [xj_ic, xj_lc, xj_rv_cat]) rfl (fun r9 h9 => cD_monthStart hl _ _ r9 h9) h (fun x8 A9 eA9 h => ?_)
  refine xg_isub (pc := 36) B dU_init_36 ?_
  refine xg_iconst (pc := 37) (v := 1) B dU_init_37 (by decide) ?_
  refine xg_iadd (pc := 38) B dU_init_38 ?_
  refine xg_puti (pc := 39) B dU_init_39 fpU_35 h (fun A10 eA10 h => ?_)
  refine xg_aload_n (pc := 42) (i := 0) (r := v0) B dU_init_42 rfl rfl ?_
  refine xg_iload_n (pc := 43) (i := 2) B dU_init_43 rfl rfl ?_
  refine xg_ci (pc := 44) (av := [.int v2]) (st := [xj_rv v0]) (cy := prog_2_method_2_code) (nLy := 1) (rety := (some .int)) (hsy := []) B dU_init_44 (xj_go_s B dU_init_44 swU_38 rfl) swU_38.2.2.1 swU_38.2.2.2.1 (by decide) (by decide) (by simp [xj_ic, xj_lc, xj_rv_cat]) rfl (fun r9 h9 => cD_weekdayOf hl _ _ r9 h9) h (fun x11 A12 eA12 h => ?_)
  refine xg_puti (pc := 47) B dU_init_47 fpU_41 h (fun A13 eA13 h => ?_)
  refine xg_aload_n (pc := 50) (i := 0) (r := v0) B dU_init_50 rfl rfl ?_
  refine xg_iconst (pc := 51) (v := 1) B dU_init_51 (by decide) ?_
  refine xg_aload_n (pc := 52) (i := 1) (r := v1) B dU_init_52 rfl rfl ?_
  refine xg_geti (pc := 53) B dU_init_53 flU_44 h (fun x14 ex14 h => ?_)
  refine xg_ci (pc := 56) (av := [.int (1 : Int32), .int x14]) (st := [xj_rv v0]) (cy := prog_16_method_65_code) (nLy := 2) (rety := (some .int)) (hsy := []) B dU_init_56 (xj_go_s B dU_init_56 swU_49 rfl) swU_49.2.2.1 swU_49.2.2.2.1 (by decide) (by decide) (by simp [xj_ic, xj_lc, xj_rv_cat]) rfl (fun r9 h9 => cJ_max hl _ _ _ r9 h9) h (fun x15 A16 eA16 h => ?_)
  refine xg_puti (pc := 59) B dU_init_59 fpU_55 h (fun A17 eA17 h => ?_)
  refine xg_aload_n (pc := 62) (i := 0) (r := v0) B dU_init_62 rfl rfl ?_
  refine xg_aload_n (pc := 63) (i := 3) (r := v3) B dU_init_63 rfl rfl ?_
  refine xg_alen (pc := 64) (t := 0) B (fun _ => rfl) dU_init_64 h (fun x18 ex18 h => ?_)
  refine xg_aload_n (pc := 65) (i := 1) (r := v1) B dU_init_65 rfl rfl ?_
  refine xg_geti (pc := 66) B dU_init_66 flU_56 h (fun x19 ex19 h => ?_)
  refine xg_if_ne (pc := 69) (tgt := 78) B dU_init_69 (by decide) h (fun c69 h => ?_) (fun c69 h => ?_)
  · refine xg_aload_n (pc := 78) (i := 1) (r := v1) B dU_init_78 rfl rfl ?_
    refine xg_geti (pc := 79) B dU_init_79 flU_56 h (fun x20 ex20 h => ?_)
    refine xg_sub (ls' := [(0, xj_rv v0)]) [0] rfl ?_
    exact wU_init_82 hl B v0 x20 x18 v0 A17 h
  · refine xg_sipush (pc := 72) (v := 200) B dU_init_72 (by decide) ?_
    refine xg_goto (pc := 75) (tgt := 82) B dU_init_75 (by decide) ?_
    refine xg_sub (ls' := [(0, xj_rv v0)]) [0] rfl ?_
    exact wU_init_82 hl B v0 (200 : Int32) x18 v0 A17 h
theorem cU_init {l : Launch} (hl : l.stackTraces = false) (v0 : xj_Rf) (v1 : xj_Rf) (v2 : Int32) (v3 : xj_Rf) (A : xj_H) (r : xj_R) (h : fU_init v0 v1 v2 v3 A = some r) : xj_M l yU_init prog_8_method_1_code 4 none [] 4 [xj_rv v0, xj_rv v1, .int v2, xj_rv v3] A r := by
  refine xj_M.of hl (by decide +kernel) (by simp [lg_sl, xj_ic, xj_lc, xj_rv_cat]) (fun z B hA hr => ?_)
  subst hr
  have hw := wU_init hl B v0 v1 v2 v3 A h
  simpa [lv_args, xj_ic, xj_lc, xj_rv_cat] using hw
/-! RecurrenceBook$Rule.allowsMonth(I)Z -/
def fR_allowsMonth_28 (s0 : Int32) (A : xj_H) : Option xj_R :=
  xj_rz s0 A
def fR_allowsMonth_23 (A : xj_H) : Option xj_R :=
  fR_allowsMonth_28 (1 : Int32) A
def fR_allowsMonth (v0 : xj_Rf) (v1 : Int32) (A : xj_H) : Option xj_R :=
  (xj_gi A v0 4 5).bind fun x1 =>
  if x1 = 0 then
    fR_allowsMonth_23  A
  else
    (xj_gi A v0 4 5).bind fun x2 =>
    if (x2 &&& ((1 : Int32) <<< (((v1 % (12 : Int32)) + (1 : Int32)) &&& 31))) = 0 then
      fR_allowsMonth_28 (0 : Int32) A
    else
      fR_allowsMonth_23  A
theorem wR_allowsMonth_28 {l : Launch} (hl : l.stackTraces = false) {z : xj_F} (B : xj_B l yR_allowsMonth prog_5_method_8_code 2 (some .boolean) [] 1 z) (s0 : Int32) (A : xj_H) (h : fR_allowsMonth_28 s0 A = some (xf_r z)) : xj_W l z 28 [] [.int s0] A := by
  unfold fR_allowsMonth_28 at h
  exact xg_zret B dR_allowsMonth_28 h
theorem wR_allowsMonth_23 {l : Launch} (hl : l.stackTraces = false) {z : xj_F} (B : xj_B l yR_allowsMonth prog_5_method_8_code 2 (some .boolean) [] 1 z) (A : xj_H) (h : fR_allowsMonth_23  A = some (xf_r z)) : xj_W l z 23 [] [] A := by
  unfold fR_allowsMonth_23 at h
  refine xg_iconst (pc := 23) (v := 1) B dR_allowsMonth_23 (by decide) ?_
  refine xg_goto (pc := 24) (tgt := 28) B dR_allowsMonth_24 (by decide) ?_
  exact wR_allowsMonth_28 hl B (1 : Int32) A h
theorem wR_allowsMonth {l : Launch} (hl : l.stackTraces = false) {z : xj_F} (B : xj_B l yR_allowsMonth prog_5_method_8_code 2 (some .boolean) [] 1 z) (v0 : xj_Rf) (v1 : Int32) (A : xj_H) (h : fR_allowsMonth v0 v1 A = some (xf_r z)) : xj_W l z 0 [(0, xj_rv v0), (1, .int v1)] [] A := by
  unfold fR_allowsMonth at h
  refine xg_aload_n (pc := 0) (i := 0) (r := v0) B dR_allowsMonth_0 rfl rfl ?_
  refine xg_geti (pc := 1) B dR_allowsMonth_1 flR_40 h (fun x1 ex1 h => ?_)
  refine xg_if_eq (pc := 4) (tgt := 23) B dR_allowsMonth_4 (by decide) h (fun c4 h => ?_) (fun c4 h => ?_)
  · refine xg_sub (ls' := []) [] rfl ?_
    exact wR_allowsMonth_23 hl B  A h
  · refine xg_aload_n (pc := 7) (i := 0) (r := v0) B dR_allowsMonth_7 rfl rfl ?_
    refine xg_geti (pc := 8) B dR_allowsMonth_8 flR_40 h (fun x2 ex2 h => ?_)
    refine xg_iconst (pc := 11) (v := 1) B dR_allowsMonth_11 (by decide) ?_
    refine xg_iload_n (pc := 12) (i := 1) B dR_allowsMonth_12 rfl rfl ?_
    refine xg_bipush (pc := 13) (v := 12) B dR_allowsMonth_13 (by decide) ?_
    refine xg_irem (pc := 15) B dR_allowsMonth_15 (by decide) ?_
    refine xg_iconst (pc := 16) (v := 1) B dR_allowsMonth_16 (by decide) ?_
    refine xg_iadd (pc := 17) B dR_allowsMonth_17 ?_
    refine xg_ishl (pc := 18) B dR_allowsMonth_18 ?_
    refine xg_iand (pc := 19) B dR_allowsMonth_19 ?_
    refine xg_if_eq (pc := 20) (tgt := 27) B dR_allowsMonth_20 (by decide) h (fun c20 h => ?_) (fun c20 h => ?_)
    · refine xg_iconst (pc := 27) (v := 0) B dR_allowsMonth_27 (by decide) ?_
      refine xg_sub (ls' := []) [] rfl ?_
      exact wR_allowsMonth_28 hl B (0 : Int32) A h
    · refine xg_sub (ls' := []) [] rfl ?_
      exact wR_allowsMonth_23 hl B  A h
theorem cR_allowsMonth {l : Launch} (hl : l.stackTraces = false) (v0 : xj_Rf) (v1 : Int32) (A : xj_H) (r : xj_R) (h : fR_allowsMonth v0 v1 A = some r) : xj_M l yR_allowsMonth prog_5_method_8_code 2 (some .boolean) [] 1 [xj_rv v0, .int v1] A r := by
  refine xj_M.of hl (by decide +kernel) (by simp [lg_sl, xj_ic, xj_lc, xj_rv_cat]) (fun z B hA hr => ?_)
  subst hr
  have hw := wR_allowsMonth hl B v0 v1 A h
  simpa [lv_args, xj_ic, xj_lc, xj_rv_cat] using hw
/-! RecurrenceBook$Unfolding.enterMonth(I)V -/
def fU_enterMonth (v0 : xj_Rf) (v1 : Int32) (A : xj_H) : Option xj_R :=
  xj_bi (fD_monthStart v1 A) fun x1 A2 =>
  (xj_pv A2 v0 6 9 (.int x1)).bind fun A3 =>
  xj_bi (fD_monthStart (v1 + (1 : Int32)) A3) fun x4 A5 =>
  (xj_gi A5 v0 6 9).bind fun x6 =>
  (xj_pv A5 v0 6 10 (.int (x4 - x6))).bind fun A7 =>
  (xj_gr A7 v0 6 0).bind fun x8 =>
  xj_bi (xj_rq A7 x8 4 (fR_allowsMonth x8 v1 A7)) fun x9 A10 =>
  (xj_pz A10 v0 6 11 x9).bind fun A11 =>
  some (.inl none, A11)
theorem wU_enterMonth {l : Launch} (hl : l.stackTraces = false) {z : xj_F} (B : xj_B l yU_enterMonth prog_8_method_8_code 2 none [] 3 z) (v0 : xj_Rf) (v1 : Int32) (A : xj_H) (h : fU_enterMonth v0 v1 A = some (xf_r z)) : xj_W l z 0 [(0, xj_rv v0), (1, .int v1)] [] A := by
  unfold fU_enterMonth at h
  refine xg_aload_n (pc := 0) (i := 0) (r := v0) B dU_enterMonth_0 rfl rfl ?_
  refine xg_iload_n (pc := 1) (i := 1) B dU_enterMonth_1 rfl rfl ?_
  refine xg_ci (pc := 2) (av := [.int v1]) (st := [xj_rv v0]) (cy := prog_2_method_4_code) (nLy := 4) (rety := (some .int)) (hsy := []) B dU_enterMonth_2 (xj_go_s B dU_enterMonth_2 swU_32 rfl) swU_32.2.2.1 swU_32.2.2.2.1 (by decide) (by decide) (by simp [xj_ic, xj_lc, xj_rv_cat]) rfl (fun r9 h9 => cD_monthStart hl _ _ r9 h9) h (fun x1 A2 eA2 h => ?_)
  refine xg_puti (pc := 5) B dU_enterMonth_5 (fpU_133 _) h (fun A3 eA3 h => ?_)
  refine xg_aload_n (pc := 8) (i := 0) (r := v0) B dU_enterMonth_8 rfl rfl ?_
  refine xg_iload_n (pc := 9) (i := 1) B dU_enterMonth_9 rfl rfl ?_
  refine xg_iconst (pc := 10) (v := 1) B dU_enterMonth_10 (by decide) ?_
  refine xg_iadd (pc := 11) B dU_enterMonth_11 ?_
  refine xg_ci (pc := 12) (av := [.int (v1 + (1 : Int32))]) (st := [xj_rv v0]) (cy := prog_2_method_4_code) (nLy := 4) (rety := (some .int)) (hsy := []) B dU_enterMonth_12 (xj_go_s B dU_enterMonth_12 swU_32 rfl) swU_32.2.2.1 swU_32.2.2.2.1 (by decide) (by decide) (by simp [xj_ic, xj_lc, xj_rv_cat]) rfl (fun r9 h9 => cD_monthStart hl _ _ r9 h9) h (fun x4 A5 eA5 h => ?_)
  refine xg_aload_n (pc := 15) (i := 0) (r := v0) B dU_enterMonth_15 rfl rfl ?_
  refine xg_geti (pc := 16) B dU_enterMonth_16 flU_133 h (fun x6 ex6 h => ?_)
  refine xg_isub (pc := 19) B dU_enterMonth_19 ?_
  refine xg_puti (pc := 20) B dU_enterMonth_20 (fpU_130 _) h (fun A7 eA7 h => ?_)
  refine xg_aload_n (pc := 23) (i := 0) (r := v0) B dU_enterMonth_23 rfl rfl ?_
  refine xg_aload_n (pc := 24) (i := 0) (r := v0) B dU_enterMonth_24 rfl rfl ?_
  refine xg_getr (pc := 25) B dU_enterMonth_25 flU_9 h (fun x8 ex8 h => ?_)
  refine xg_iload_n (pc := 28) (i := 1) B dU_enterMonth_28 rfl rfl ?_
  obtain ⟨hq29, h⟩ := xj_rq_i h
  refine xg_ci (pc := 29) (av := [xj_rv x8, .int v1]) (st := [xj_rv v0]) (cy := prog_5_method_8_code) (nLy := 2) (rety := (some .boolean)) (hsy := []) B dU_enterMonth_29 (xj_go_v B dU_enterMonth_29 vwU_135 rfl hq29) (xj_vw_c vwU_135) (xj_vw_i vwU_135) (by decide) (by decide) (by simp [xj_ic, xj_lc, xj_rv_cat]) rfl (fun r9 h9 => cR_allowsMonth hl _ _ _ r9 h9) h (fun x9 A10 eA10 h => ?_)
  refine xg_putz (pc := 32) B dU_enterMonth_32 (fpU_103 _) h (fun A11 eA11 h => ?_)
  exact xg_vret B dU_enterMonth_35 h
theorem cU_enterMonth {l : Launch} (hl : l.stackTraces = false) (v0 : xj_Rf) (v1 : Int32) (A : xj_H) (r : xj_R) (h : fU_enterMonth v0 v1 A = some r) : xj_M l yU_enterMonth prog_8_method_8_code 2 none [] 3 [xj_rv v0, .int v1] A r := by
  refine xj_M.of hl (by decide +kernel) (by simp [lg_sl, xj_ic, xj_lc, xj_rv_cat]) (fun z B hA hr => ?_)
  subst hr
  have hw := wU_enterMonth hl B v0 v1 A h
  simpa [lv_args, xj_ic, xj_lc, xj_rv_cat] using hw
/-! RecurrenceBook$Unfolding.followMonth(I)V -/
def fU_followMonth_21 (A : xj_H) : Option xj_R :=
  some (.inl none, A)
def fU_followMonth (v0 : xj_Rf) (v1 : Int32) (A : xj_H) : Option xj_R :=
  (xj_gi A v0 6 9).bind fun x1 =>
  (xj_gi A v0 6 10).bind fun x2 =>
  if v1 < (x1 + x2) then
    fU_followMonth_21  A
  else
    xj_bi (fD_monthOf v1 A) fun x3 A4 =>
    xj_bv (xj_rq A4 v0 6 (fU_enterMonth v0 x3 A4)) fun A5 =>
    fU_followMonth_21  A5
theorem wU_followMonth_21 {l : Launch} (hl : l.stackTraces = false) {z : xj_F} (B : xj_B l yU_followMonth prog_8_method_9_code 2 none [] 4 z) (A : xj_H) (h : fU_followMonth_21  A = some (xf_r z)) : xj_W l z 21 [] [] A := by
  unfold fU_followMonth_21 at h
  exact xg_vret B dU_followMonth_21 h
theorem wU_followMonth {l : Launch} (hl : l.stackTraces = false) {z : xj_F} (B : xj_B l yU_followMonth prog_8_method_9_code 2 none [] 4 z) (v0 : xj_Rf) (v1 : Int32) (A : xj_H) (h : fU_followMonth v0 v1 A = some (xf_r z)) : xj_W l z 0 [(0, xj_rv v0), (1, .int v1)] [] A := by
  unfold fU_followMonth at h
  refine xg_iload_n (pc := 0) (i := 1) B dU_followMonth_0 rfl rfl ?_
  refine xg_aload_n (pc := 1) (i := 0) (r := v0) B dU_followMonth_1 rfl rfl ?_
  refine xg_geti (pc := 2) B dU_followMonth_2 flU_133 h (fun x1 ex1 h => ?_)
  refine xg_aload_n (pc := 5) (i := 0) (r := v0) B dU_followMonth_5 rfl rfl ?_
  refine xg_geti (pc := 6) B dU_followMonth_6 flU_130 h (fun x2 ex2 h => ?_)
  refine xg_iadd (pc := 9) B dU_followMonth_9 ?_
  refine xg_icmp_lt (pc := 10) (tgt := 21) B dU_followMonth_10 (by decide) h (fun c10 h => ?_) (fun c10 h => ?_)
  · refine xg_sub (ls' := []) [] rfl ?_
    exact wU_followMonth_21 hl B  A h
  · refine xg_aload_n (pc := 13) (i := 0) (r := v0) B dU_followMonth_13 rfl rfl ?_
    refine xg_iload_n (pc := 14) (i := 1) B dU_followMonth_14 rfl rfl ?_
    refine xg_ci (pc := 15) (av := [.int v1]) (st := [xj_rv v0]) (cy := prog_2_method_5_code) (nLy := 3) (rety := (some .int)) (hsy := []) B dU_followMonth_15 (xj_go_s B dU_followMonth_15 swU_23 rfl) swU_23.2.2.1 swU_23.2.2.2.1 (by decide) (by decide) (by simp [xj_ic, xj_lc, xj_rv_cat]) rfl (fun r9 h9 => cD_monthOf hl _ _ r9 h9) h (fun x3 A4 eA4 h => ?_)
    obtain ⟨hq18, h⟩ := xj_rq_v h
    refine xg_cv (pc := 18) (av := [xj_rv v0, .int x3]) (st := []) (cy := prog_8_method_8_code) (nLy := 2) (rety := none) (hsy := []) B dU_followMonth_18 (xj_go_v B dU_followMonth_18 vwU_66 rfl hq18) (xj_vw_c vwU_66) (xj_vw_i vwU_66) (by decide) (by decide) (by decide) rfl (fun r9 h9 => cU_enterMonth hl _ _ _ r9 h9) h (fun A5 eA5 h => ?_)
    refine xg_sub (ls' := []) [] rfl ?_
    exact wU_followMonth_21 hl B  A5 h
theorem cU_followMonth {l : Launch} (hl : l.stackTraces = false) (v0 : xj_Rf) (v1 : Int32) (A : xj_H) (r : xj_R) (h : fU_followMonth v0 v1 A = some r) : xj_M l yU_followMonth prog_8_method_9_code 2 none [] 4 [xj_rv v0, .int v1] A r := by
  refine xj_M.of hl (by decide +kernel) (by simp [lg_sl, xj_ic, xj_lc, xj_rv_cat]) (fun z B hA hr => ?_)
  subst hr
  have hw := wU_followMonth hl B v0 v1 A h
  simpa [lv_args, xj_ic, xj_lc, xj_rv_cat] using hw
/-! RecurrenceBook$Rule.allowsNumber(II)Z -/
def fR_allowsNumber_42 (s0 : Int32) (A : xj_H) : Option xj_R :=
  xj_rz s0 A
def fR_allowsNumber_37 (A : xj_H) : Option xj_R :=
  fR_allowsNumber_42 (1 : Int32) A
def fR_allowsNumber (v0 : xj_Rf) (v1 : Int32) (v2 : Int32) (A : xj_H) : Option xj_R :=
  xj_bi (xj_rq A v0 4 (fR_hasNumbers v0 A)) fun x1 A2 =>
  if ¬ x1 = 0 then
    (xj_gi A2 v0 4 6).bind fun x3 =>
    if ¬ (x3 &&& ((1 : Int32) <<< (v1 &&& 31))) = 0 then
      fR_allowsNumber_37  A2
    else
      (xj_gi A2 v0 4 7).bind fun x4 =>
      if (x4 &&& ((1 : Int32) <<< (((v2 - v1) + (1 : Int32)) &&& 31))) = 0 then
        fR_allowsNumber_42 (0 : Int32) A2
      else
        fR_allowsNumber_37  A2
  else
    xj_rz (1 : Int32) A2
theorem wR_allowsNumber_42 {l : Launch} (hl : l.stackTraces = false) {z : xj_F} (B : xj_B l yR_allowsNumber prog_5_method_9_code 4 (some .boolean) [] 2 z) (s0 : Int32) (A : xj_H) (h : fR_allowsNumber_42 s0 A = some (xf_r z)) : xj_W l z 42 [] [.int s0] A := by
  unfold fR_allowsNumber_42 at h
  exact xg_zret B dR_allowsNumber_42 h
theorem wR_allowsNumber_37 {l : Launch} (hl : l.stackTraces = false) {z : xj_F} (B : xj_B l yR_allowsNumber prog_5_method_9_code 4 (some .boolean) [] 2 z) (A : xj_H) (h : fR_allowsNumber_37  A = some (xf_r z)) : xj_W l z 37 [] [] A := by
  unfold fR_allowsNumber_37 at h
  refine xg_iconst (pc := 37) (v := 1) B dR_allowsNumber_37 (by decide) ?_
  refine xg_goto (pc := 38) (tgt := 42) B dR_allowsNumber_38 (by decide) ?_
  exact wR_allowsNumber_42 hl B (1 : Int32) A h
theorem wR_allowsNumber {l : Launch} (hl : l.stackTraces = false) {z : xj_F} (B : xj_B l yR_allowsNumber prog_5_method_9_code 4 (some .boolean) [] 2 z) (v0 : xj_Rf) (v1 : Int32) (v2 : Int32) (A : xj_H) (h : fR_allowsNumber v0 v1 v2 A = some (xf_r z)) : xj_W l z 0 [(0, xj_rv v0), (1, .int v1), (2, .int v2)] [] A := by
  unfold fR_allowsNumber at h
  refine xg_aload_n (pc := 0) (i := 0) (r := v0) B dR_allowsNumber_0 rfl rfl ?_
  obtain ⟨hq1, h⟩ := xj_rq_i h
  refine xg_ci (pc := 1) (av := [xj_rv v0]) (st := []) (cy := prog_5_method_7_code) (nLy := 1) (rety := (some .boolean)) (hsy := []) B dR_allowsNumber_1 (xj_go_v B dR_allowsNumber_1 vwR_43 rfl hq1) (xj_vw_c vwR_43) (xj_vw_i vwR_43) (by decide) (by decide) (by decide) rfl (fun r9 h9 => cR_hasNumbers hl _ _ r9 h9) h (fun x1 A2 eA2 h => ?_)
  refine xg_if_ne (pc := 4) (tgt := 9) B dR_allowsNumber_4 (by decide) h (fun c4 h => ?_) (fun c4 h => ?_)
  · refine xg_iload_n (pc := 9) (i := 2) B dR_allowsNumber_9 rfl rfl ?_
    refine xg_iload_n (pc := 10) (i := 1) B dR_allowsNumber_10 rfl rfl ?_
    refine xg_isub (pc := 11) B dR_allowsNumber_11 ?_
    refine xg_iconst (pc := 12) (v := 1) B dR_allowsNumber_12 (by decide) ?_
    refine xg_iadd (pc := 13) B dR_allowsNumber_13 ?_
    refine xg_istore_n (pc := 14) (i := 3) (ls' := [(3, .int ((v2 - v1) + (1 : Int32))), (0, xj_rv v0), (1, .int v1), (2, .int v2)]) B dR_allowsNumber_14 rfl (by decide) ⟨xj_nq (a := 0) (i := 3) (by decide), xj_nq (a := 1) (i := 3) (by decide), fun _ => rfl, trivial⟩ rfl ?_
    refine xg_aload_n (pc := 15) (i := 0) (r := v0) B dR_allowsNumber_15 rfl rfl ?_
    refine xg_geti (pc := 16) B dR_allowsNumber_16 flR_23 h (fun x3 ex3 h => ?_)
    refine xg_iconst (pc := 19) (v := 1) B dR_allowsNumber_19 (by decide) ?_
    refine xg_iload_n (pc := 20) (i := 1) B dR_allowsNumber_20 rfl rfl ?_
    refine xg_ishl (pc := 21) B dR_allowsNumber_21 ?_
    refine xg_iand (pc := 22) B dR_allowsNumber_22 ?_
    refine xg_if_ne (pc := 23) (tgt := 37) B dR_allowsNumber_23 (by decide) h (fun c23 h => ?_) (fun c23 h => ?_)
    · refine xg_sub (ls' := []) [] rfl ?_
      exact wR_allowsNumber_37 hl B  A2 h
    · refine xg_aload_n (pc := 26) (i := 0) (r := v0) B dR_allowsNumber_26 rfl rfl ?_
      refine xg_geti (pc := 27) B dR_allowsNumber_27 flR_20 h (fun x4 ex4 h => ?_)
      refine xg_iconst (pc := 30) (v := 1) B dR_allowsNumber_30 (by decide) ?_
      refine xg_iload_n (pc := 31) (i := 3) B dR_allowsNumber_31 rfl rfl ?_
      refine xg_ishl (pc := 32) B dR_allowsNumber_32 ?_
      refine xg_iand (pc := 33) B dR_allowsNumber_33 ?_
      refine xg_if_eq (pc := 34) (tgt := 41) B dR_allowsNumber_34 (by decide) h (fun c34 h => ?_) (fun c34 h => ?_)
      · refine xg_iconst (pc := 41) (v := 0) B dR_allowsNumber_41 (by decide) ?_
        refine xg_sub (ls' := []) [] rfl ?_
        exact wR_allowsNumber_42 hl B (0 : Int32) A2 h
      · refine xg_sub (ls' := []) [] rfl ?_
        exact wR_allowsNumber_37 hl B  A2 h
  · refine xg_iconst (pc := 7) (v := 1) B dR_allowsNumber_7 (by decide) ?_
    exact xg_zret B dR_allowsNumber_8 h
theorem cR_allowsNumber {l : Launch} (hl : l.stackTraces = false) (v0 : xj_Rf) (v1 : Int32) (v2 : Int32) (A : xj_H) (r : xj_R) (h : fR_allowsNumber v0 v1 v2 A = some r) : xj_M l yR_allowsNumber prog_5_method_9_code 4 (some .boolean) [] 2 [xj_rv v0, .int v1, .int v2] A r := by
  refine xj_M.of hl (by decide +kernel) (by simp [lg_sl, xj_ic, xj_lc, xj_rv_cat]) (fun z B hA hr => ?_)
  subst hr
  have hw := wR_allowsNumber hl B v0 v1 v2 A h
  simpa [lv_args, xj_ic, xj_lc, xj_rv_cat] using hw
/-! RecurrenceBook$Rule.allowsWeekday(III)Z -/
def fR_allowsWeekday_77 (s0 : Int32) (A : xj_H) : Option xj_R :=
  xj_rz s0 A
def fR_allowsWeekday_72 (A : xj_H) : Option xj_R :=
  fR_allowsWeekday_77 (1 : Int32) A
def fR_allowsWeekday_18 (A : xj_H) : Option xj_R :=
  xj_rz (1 : Int32) A
def fR_allowsWeekday (v0 : xj_Rf) (v1 : Int32) (v2 : Int32) (v3 : Int32) (A : xj_H) : Option xj_R :=
  xj_bi (xj_rq A v0 4 (fR_hasWeekdays v0 A)) fun x1 A2 =>
  if x1 = 0 then
    fR_allowsWeekday_18  A2
  else
    (xj_gi A2 v0 4 8).bind fun x3 =>
    if (x3 &&& ((1 : Int32) <<< (v1 &&& 31))) = 0 then
      (xj_gl A2 v0 4 9).bind fun x4 =>
      xj_bl (fR_nthBit v1 (((v2 - (1 : Int32)) / (7 : Int32)) + (1 : Int32)) A2) fun x5 A6 =>
      if ¬ (lg_cmp (x4 &&& x5) (0 : Int64)) = 0 then
        fR_allowsWeekday_72  A6
      else
        (xj_gl A6 v0 4 10).bind fun x7 =>
        xj_bl (fR_nthBit v1 (((v3 - v2) / (7 : Int32)) + (1 : Int32)) A6) fun x8 A9 =>
        if (lg_cmp (x7 &&& x8) (0 : Int64)) = 0 then
          fR_allowsWeekday_77 (0 : Int32) A9
        else
          fR_allowsWeekday_72  A9
    else
      fR_allowsWeekday_18  A2
theorem wR_allowsWeekday_77 {l : Launch} (hl : l.stackTraces = false) {z : xj_F} (B : xj_B l yR_allowsWeekday prog_5_method_10_code 6 (some .boolean) [] 2 z) (s0 : Int32) (A : xj_H) (h : fR_allowsWeekday_77 s0 A = some (xf_r z)) : xj_W l z 77 [] [.int s0] A := by
  unfold fR_allowsWeekday_77 at h
  exact xg_zret B dR_allowsWeekday_77 h
theorem wR_allowsWeekday_72 {l : Launch} (hl : l.stackTraces = false) {z : xj_F} (B : xj_B l yR_allowsWeekday prog_5_method_10_code 6 (some .boolean) [] 2 z) (A : xj_H) (h : fR_allowsWeekday_72  A = some (xf_r z)) : xj_W l z 72 [] [] A := by
  unfold fR_allowsWeekday_72 at h
  refine xg_iconst (pc := 72) (v := 1) B dR_allowsWeekday_72 (by decide) ?_
  refine xg_goto (pc := 73) (tgt := 77) B dR_allowsWeekday_73 (by decide) ?_
  exact wR_allowsWeekday_77 hl B (1 : Int32) A h
theorem wR_allowsWeekday_18 {l : Launch} (hl : l.stackTraces = false) {z : xj_F} (B : xj_B l yR_allowsWeekday prog_5_method_10_code 6 (some .boolean) [] 2 z) (A : xj_H) (h : fR_allowsWeekday_18  A = some (xf_r z)) : xj_W l z 18 [] [] A := by
  unfold fR_allowsWeekday_18 at h
  refine xg_iconst (pc := 18) (v := 1) B dR_allowsWeekday_18 (by decide) ?_
  exact xg_zret B dR_allowsWeekday_19 h
theorem wR_allowsWeekday {l : Launch} (hl : l.stackTraces = false) {z : xj_F} (B : xj_B l yR_allowsWeekday prog_5_method_10_code 6 (some .boolean) [] 2 z) (v0 : xj_Rf) (v1 : Int32) (v2 : Int32) (v3 : Int32) (A : xj_H) (h : fR_allowsWeekday v0 v1 v2 v3 A = some (xf_r z)) : xj_W l z 0 [(0, xj_rv v0), (1, .int v1), (2, .int v2), (3, .int v3)] [] A := by
  unfold fR_allowsWeekday at h
  refine xg_aload_n (pc := 0) (i := 0) (r := v0) B dR_allowsWeekday_0 rfl rfl ?_
  obtain ⟨hq1, h⟩ := xj_rq_i h
  refine xg_ci (pc := 1) (av := [xj_rv v0]) (st := []) (cy := prog_5_method_6_code) (nLy := 1) (rety := (some .boolean)) (hsy := []) B dR_allowsWeekday_1 (xj_go_v B dR_allowsWeekday_1 vwR_47 rfl hq1) (xj_vw_c vwR_47) (xj_vw_i vwR_47) (by decide) (by decide) (by decide) rfl (fun r9 h9 => cR_hasWeekdays hl _ _ r9 h9) h (fun x1 A2 eA2 h => ?_)
  refine xg_if_eq (pc := 4) (tgt := 18) B dR_allowsWeekday_4 (by decide) h (fun c4 h => ?_) (fun c4 h => ?_)
  · refine xg_sub (ls' := []) [] rfl ?_
    exact wR_allowsWeekday_18 hl B  A2 h
  · refine xg_aload_n (pc := 7) (i := 0) (r := v0) B dR_allowsWeekday_7 rfl rfl ?_
    refine xg_geti (pc := 8) B dR_allowsWeekday_8 flR_26 h (fun x3 ex3 h => ?_)
    refine xg_iconst (pc := 11) (v := 1) B dR_allowsWeekday_11 (by decide) ?_
    refine xg_iload_n (pc := 12) (i := 1) B dR_allowsWeekday_12 rfl rfl ?_
    refine xg_ishl (pc := 13) B dR_allowsWeekday_13 ?_
    refine xg_iand (pc := 14) B dR_allowsWeekday_14 ?_
    refine xg_if_eq (pc := 15) (tgt := 20) B dR_allowsWeekday_15 (by decide) h (fun c15 h => ?_) (fun c15 h => ?_)
    · refine xg_iload_n (pc := 20) (i := 2) B dR_allowsWeekday_20 rfl rfl ?_
      refine xg_iconst (pc := 21) (v := 1) B dR_allowsWeekday_21 (by decide) ?_
      refine xg_isub (pc := 22) B dR_allowsWeekday_22 ?_
      refine xg_bipush (pc := 23) (v := 7) B dR_allowsWeekday_23 (by decide) ?_
      refine xg_idiv (pc := 25) B dR_allowsWeekday_25 (by decide) ?_
      refine xg_iconst (pc := 26) (v := 1) B dR_allowsWeekday_26 (by decide) ?_
      refine xg_iadd (pc := 27) B dR_allowsWeekday_27 ?_
      refine xg_istore (pc := 28) (i := 4) (ls' := [(4, .int (((v2 - (1 : Int32)) / (7 : Int32)) + (1 : Int32))), (0, xj_rv v0), (1, .int v1), (2, .int v2), (3, .int v3)]) B dR_allowsWeekday_28 (by decide) ⟨xj_nq (a := 0) (i := 4) (by decide), xj_nq (a := 1) (i := 4) (by decide), xj_nq (a := 2) (i := 4) (by decide), fun _ => rfl, trivial⟩ rfl ?_
      refine xg_iload_n (pc := 30) (i := 3) B dR_allowsWeekday_30 rfl rfl ?_
      refine xg_iload_n (pc := 31) (i := 2) B dR_allowsWeekday_31 rfl rfl ?_
      refine xg_isub (pc := 32) B dR_allowsWeekday_32 ?_
      refine xg_bipush (pc := 33) (v := 7) B dR_allowsWeekday_33 (by decide) ?_
      refine xg_idiv (pc := 35) B dR_allowsWeekday_35 (by decide) ?_
      refine xg_iconst (pc := 36) (v := 1) B dR_allowsWeekday_36 (by decide) ?_
      refine xg_iadd (pc := 37) B dR_allowsWeekday_37 ?_
      refine xg_istore (pc := 38) (i := 5) (ls' := [(5, .int (((v3 - v2) / (7 : Int32)) + (1 : Int32))), (4, .int (((v2 - (1 : Int32)) / (7 : Int32)) + (1 : Int32))), (0, xj_rv v0), (1, .int v1), (2, .int v2), (3, .int v3)]) B dR_allowsWeekday_38 (by decide) ⟨fun _ => rfl, xj_nq (a := 0) (i := 5) (by decide), xj_nq (a := 1) (i := 5) (by decide), xj_nq (a := 2) (i := 5) (by decide), xj_nq (a := 3) (i := 5) (by decide), trivial⟩ rfl ?_
      refine xg_aload_n (pc := 40) (i := 0) (r := v0) B dR_allowsWeekday_40 rfl rfl ?_
      refine xg_getl (pc := 41) B dR_allowsWeekday_41 flR_37 h (fun x4 ex4 h => ?_)
      refine xg_iload_n (pc := 44) (i := 1) B dR_allowsWeekday_44 rfl rfl ?_
      refine xg_iload (pc := 45) (i := 4) B dR_allowsWeekday_45 rfl ?_
      refine xg_cl (pc := 47) (av := [.int v1, .int (((v2 - (1 : Int32)) / (7 : Int32)) + (1 : Int32))]) (st := [.long x4]) (cy := prog_5_method_4_code) (nLy := 2) (rety := (some .long)) (hsy := []) B dR_allowsWeekday_47 (xj_go_s B dR_allowsWeekday_47 swR_33 rfl) swR_33.2.2.1 swR_33.2.2.2.1 (by decide) (by decide) (by simp [xj_ic, xj_lc, xj_rv_cat]) rfl (fun r9 h9 => cR_nthBit hl _ _ _ r9 h9) h (fun x5 A6 eA6 h => ?_)
      refine xg_land (pc := 50) B dR_allowsWeekday_50 ?_
      refine xg_lconst (pc := 51) (v := 0) B dR_allowsWeekday_51 (by decide) ?_
      refine xg_lcmp (pc := 52) B dR_allowsWeekday_52 ?_
      refine xg_if_ne (pc := 53) (tgt := 72) B dR_allowsWeekday_53 (by decide) h (fun c53 h => ?_) (fun c53 h => ?_)
      · refine xg_sub (ls' := []) [] rfl ?_
        exact wR_allowsWeekday_72 hl B  A6 h
      · refine xg_aload_n (pc := 56) (i := 0) (r := v0) B dR_allowsWeekday_56 rfl rfl ?_
        refine xg_getl (pc := 57) B dR_allowsWeekday_57 flR_29 h (fun x7 ex7 h => ?_)
        refine xg_iload_n (pc := 60) (i := 1) B dR_allowsWeekday_60 rfl rfl ?_
        refine xg_iload (pc := 61) (i := 5) B dR_allowsWeekday_61 rfl ?_
        refine xg_cl (pc := 63) (av := [.int v1, .int (((v3 - v2) / (7 : Int32)) + (1 : Int32))]) (st := [.long x7]) (cy := prog_5_method_4_code) (nLy := 2) (rety := (some .long)) (hsy := []) B dR_allowsWeekday_63 (xj_go_s B dR_allowsWeekday_63 swR_33 rfl) swR_33.2.2.1 swR_33.2.2.2.1 (by decide) (by decide) (by simp [xj_ic, xj_lc, xj_rv_cat]) rfl (fun r9 h9 => cR_nthBit hl _ _ _ r9 h9) h (fun x8 A9 eA9 h => ?_)
        refine xg_land (pc := 66) B dR_allowsWeekday_66 ?_
        refine xg_lconst (pc := 67) (v := 0) B dR_allowsWeekday_67 (by decide) ?_
        refine xg_lcmp (pc := 68) B dR_allowsWeekday_68 ?_
        refine xg_if_eq (pc := 69) (tgt := 76) B dR_allowsWeekday_69 (by decide) h (fun c69 h => ?_) (fun c69 h => ?_)
        · refine xg_iconst (pc := 76) (v := 0) B dR_allowsWeekday_76 (by decide) ?_
          refine xg_sub (ls' := []) [] rfl ?_
          exact wR_allowsWeekday_77 hl B (0 : Int32) A9 h
        · refine xg_sub (ls' := []) [] rfl ?_
          exact wR_allowsWeekday_72 hl B  A9 h
    · refine xg_sub (ls' := []) [] rfl ?_
      exact wR_allowsWeekday_18 hl B  A2 h
theorem cR_allowsWeekday {l : Launch} (hl : l.stackTraces = false) (v0 : xj_Rf) (v1 : Int32) (v2 : Int32) (v3 : Int32) (A : xj_H) (r : xj_R) (h : fR_allowsWeekday v0 v1 v2 v3 A = some r) : xj_M l yR_allowsWeekday prog_5_method_10_code 6 (some .boolean) [] 2 [xj_rv v0, .int v1, .int v2, .int v3] A r := by
  refine xj_M.of hl (by decide +kernel) (by simp [lg_sl, xj_ic, xj_lc, xj_rv_cat]) (fun z B hA hr => ?_)
  subst hr
  have hw := wR_allowsWeekday hl B v0 v1 v2 v3 A h
  simpa [lv_args, xj_ic, xj_lc, xj_rv_cat] using hw
/-! RecurrenceBook$Unfolding.isMeantInMonth(I)Z -/
def fU_isMeantInMonth_48 (s0 : Int32) (A : xj_H) : Option xj_R :=
  xj_rz s0 A
def fU_isMeantInMonth_47 (A : xj_H) : Option xj_R :=
  fU_isMeantInMonth_48 (0 : Int32) A
def fU_isMeantInMonth (v0 : xj_Rf) (v1 : Int32) (A : xj_H) : Option xj_R :=
  (xj_gi A v0 6 9).bind fun x1 =>
  (xj_gr A v0 6 0).bind fun x2 =>
  (xj_gi A v0 6 10).bind fun x3 =>
  xj_bi (xj_rq A x2 4 (fR_allowsNumber x2 ((v1 - x1) + (1 : Int32)) x3 A)) fun x4 A5 =>
  if x4 = 0 then
    fU_isMeantInMonth_47  A5
  else
    (xj_gr A5 v0 6 0).bind fun x6 =>
    xj_bi (fD_weekdayOf v1 A5) fun x7 A8 =>
    (xj_gi A8 v0 6 10).bind fun x9 =>
    xj_bi (xj_rq A8 x6 4 (fR_allowsWeekday x6 x7 ((v1 - x1) + (1 : Int32)) x9 A8)) fun x10 A11 =>
    if x10 = 0 then
      fU_isMeantInMonth_47  A11
    else
      fU_isMeantInMonth_48 (1 : Int32) A11
theorem wU_isMeantInMonth_48 {l : Launch} (hl : l.stackTraces = false) {z : xj_F} (B : xj_B l yU_isMeantInMonth prog_8_method_10_code 3 (some .boolean) [] 3 z) (s0 : Int32) (A : xj_H) (h : fU_isMeantInMonth_48 s0 A = some (xf_r z)) : xj_W l z 48 [] [.int s0] A := by
  unfold fU_isMeantInMonth_48 at h
  exact xg_zret B dU_isMeantInMonth_48 h
theorem wU_isMeantInMonth_47 {l : Launch} (hl : l.stackTraces = false) {z : xj_F} (B : xj_B l yU_isMeantInMonth prog_8_method_10_code 3 (some .boolean) [] 3 z) (A : xj_H) (h : fU_isMeantInMonth_47  A = some (xf_r z)) : xj_W l z 47 [] [] A := by
  unfold fU_isMeantInMonth_47 at h
  refine xg_iconst (pc := 47) (v := 0) B dU_isMeantInMonth_47 (by decide) ?_
  exact wU_isMeantInMonth_48 hl B (0 : Int32) A h
theorem wU_isMeantInMonth {l : Launch} (hl : l.stackTraces = false) {z : xj_F} (B : xj_B l yU_isMeantInMonth prog_8_method_10_code 3 (some .boolean) [] 3 z) (v0 : xj_Rf) (v1 : Int32) (A : xj_H) (h : fU_isMeantInMonth v0 v1 A = some (xf_r z)) : xj_W l z 0 [(0, xj_rv v0), (1, .int v1)] [] A := by
  unfold fU_isMeantInMonth at h
  refine xg_iload_n (pc := 0) (i := 1) B dU_isMeantInMonth_0 rfl rfl ?_
  refine xg_aload_n (pc := 1) (i := 0) (r := v0) B dU_isMeantInMonth_1 rfl rfl ?_
  refine xg_geti (pc := 2) B dU_isMeantInMonth_2 flU_133 h (fun x1 ex1 h => ?_)
  refine xg_isub (pc := 5) B dU_isMeantInMonth_5 ?_
  refine xg_iconst (pc := 6) (v := 1) B dU_isMeantInMonth_6 (by decide) ?_
  refine xg_iadd (pc := 7) B dU_isMeantInMonth_7 ?_
  refine xg_istore_n (pc := 8) (i := 2) (ls' := [(2, .int ((v1 - x1) + (1 : Int32))), (0, xj_rv v0), (1, .int v1)]) B dU_isMeantInMonth_8 rfl (by decide) ⟨xj_nq (a := 0) (i := 2) (by decide), fun _ => rfl, trivial⟩ rfl ?_
  refine xg_aload_n (pc := 9) (i := 0) (r := v0) B dU_isMeantInMonth_9 rfl rfl ?_
  refine xg_getr (pc := 10) B dU_isMeantInMonth_10 flU_9 h (fun x2 ex2 h => ?_)
  refine xg_iload_n (pc := 13) (i := 2) B dU_isMeantInMonth_13 rfl rfl ?_
  refine xg_aload_n (pc := 14) (i := 0) (r := v0) B dU_isMeantInMonth_14 rfl rfl ?_
  refine xg_geti (pc := 15) B dU_isMeantInMonth_15 flU_130 h (fun x3 ex3 h => ?_)
  obtain ⟨hq18, h⟩ := xj_rq_i h
  refine xg_ci (pc := 18) (av := [xj_rv x2, .int ((v1 - x1) + (1 : Int32)), .int x3]) (st := []) (cy := prog_5_method_9_code) (nLy := 4) (rety := (some .boolean)) (hsy := []) B dU_isMeantInMonth_18 (xj_go_v B dU_isMeantInMonth_18 vwU_138 rfl hq18) (xj_vw_c vwU_138) (xj_vw_i vwU_138) (by decide) (by decide) (by decide) rfl (fun r9 h9 => cR_allowsNumber hl _ _ _ _ r9 h9) h (fun x4 A5 eA5 h => ?_)
  refine xg_if_eq (pc := 21) (tgt := 47) B dU_isMeantInMonth_21 (by decide) h (fun c21 h => ?_) (fun c21 h => ?_)
  · refine xg_sub (ls' := []) [] rfl ?_
    exact wU_isMeantInMonth_47 hl B  A5 h
  · refine xg_aload_n (pc := 24) (i := 0) (r := v0) B dU_isMeantInMonth_24 rfl rfl ?_
    refine xg_getr (pc := 25) B dU_isMeantInMonth_25 flU_9 h (fun x6 ex6 h => ?_)
    refine xg_iload_n (pc := 28) (i := 1) B dU_isMeantInMonth_28 rfl rfl ?_
    refine xg_ci (pc := 29) (av := [.int v1]) (st := [xj_rv x6]) (cy := prog_2_method_2_code) (nLy := 1) (rety := (some .int)) (hsy := []) B dU_isMeantInMonth_29 (xj_go_s B dU_isMeantInMonth_29 swU_38 rfl) swU_38.2.2.1 swU_38.2.2.2.1 (by decide) (by decide) (by simp [xj_ic, xj_lc, xj_rv_cat]) rfl (fun r9 h9 => cD_weekdayOf hl _ _ r9 h9) h (fun x7 A8 eA8 h => ?_)
    refine xg_iload_n (pc := 32) (i := 2) B dU_isMeantInMonth_32 rfl rfl ?_
    refine xg_aload_n (pc := 33) (i := 0) (r := v0) B dU_isMeantInMonth_33 rfl rfl ?_
    refine xg_geti (pc := 34) B dU_isMeantInMonth_34 flU_130 h (fun x9 ex9 h => ?_)
    obtain ⟨hq37, h⟩ := xj_rq_i h
    refine xg_ci (pc := 37) (av := [xj_rv x6, .int x7, .int ((v1 - x1) + (1 : Int32)), .int x9]) (st := []) (cy := prog_5_method_10_code) (nLy := 6) (rety := (some .boolean)) (hsy := []) B dU_isMeantInMonth_37 (xj_go_v B dU_isMeantInMonth_37 vwU_142 rfl hq37) (xj_vw_c vwU_142) (xj_vw_i vwU_142) (by decide) (by decide) (by decide) rfl (fun r9 h9 => cR_allowsWeekday hl _ _ _ _ _ r9 h9) h (fun x10 A11 eA11 h => ?_)
    refine xg_if_eq (pc := 40) (tgt := 47) B dU_isMeantInMonth_40 (by decide) h (fun c40 h => ?_) (fun c40 h => ?_)
    · refine xg_sub (ls' := []) [] rfl ?_
      exact wU_isMeantInMonth_47 hl B  A11 h
    · refine xg_iconst (pc := 43) (v := 1) B dU_isMeantInMonth_43 (by decide) ?_
      refine xg_goto (pc := 44) (tgt := 48) B dU_isMeantInMonth_44 (by decide) ?_
      refine xg_sub (ls' := []) [] rfl ?_
      exact wU_isMeantInMonth_48 hl B (1 : Int32) A11 h
theorem cU_isMeantInMonth {l : Launch} (hl : l.stackTraces = false) (v0 : xj_Rf) (v1 : Int32) (A : xj_H) (r : xj_R) (h : fU_isMeantInMonth v0 v1 A = some r) : xj_M l yU_isMeantInMonth prog_8_method_10_code 3 (some .boolean) [] 3 [xj_rv v0, .int v1] A r := by
  refine xj_M.of hl (by decide +kernel) (by simp [lg_sl, xj_ic, xj_lc, xj_rv_cat]) (fun z B hA hr => ?_)
  subst hr
  have hw := wU_isMeantInMonth hl B v0 v1 A h
  simpa [lv_args, xj_ic, xj_lc, xj_rv_cat] using hw
/-! RecurrenceBook$Unfolding.add(I)V -/
def fU_add_50 (A : xj_H) : Option xj_R :=
  some (.inl none, A)
def fU_add (v0 : xj_Rf) (v1 : Int32) (A : xj_H) : Option xj_R :=
  (xj_gi A v0 6 1).bind fun x1 =>
  if v1 < x1 then
    fU_add_50  A
  else
    (xj_gr A v0 6 0).bind fun x2 =>
    (xj_gi A x2 4 4).bind fun x3 =>
    if x3 < v1 then
      fU_add_50  A
    else
      (xj_gi A v0 6 8).bind fun x4 =>
      (xj_gi A v0 6 6).bind fun x5 =>
      if x5 ≤ x4 then
        fU_add_50  A
      else
        (xj_gr A v0 6 7).bind fun x6 =>
        (xj_gi A v0 6 8).bind fun x7 =>
        (xj_as A x6 0 x7 v1).bind fun A8 =>
        (xj_gi A8 v0 6 8).bind fun x9 =>
        (xj_pv A8 v0 6 8 (.int (x9 + (1 : Int32)))).bind fun A10 =>
        fU_add_50  A10
theorem wU_add_50 {l : Launch} (hl : l.stackTraces = false) {z : xj_F} (B : xj_B l yU_add prog_8_method_11_code 2 none [] 1 z) (A : xj_H) (h : fU_add_50  A = some (xf_r z)) : xj_W l z 50 [] [] A := by
  unfold fU_add_50 at h
  exact xg_vret B dU_add_50 h
theorem wU_add {l : Launch} (hl : l.stackTraces = false) {z : xj_F} (B : xj_B l yU_add prog_8_method_11_code 2 none [] 1 z) (v0 : xj_Rf) (v1 : Int32) (A : xj_H) (h : fU_add v0 v1 A = some (xf_r z)) : xj_W l z 0 [(0, xj_rv v0), (1, .int v1)] [] A := by
  unfold fU_add at h
  refine xg_iload_n (pc := 0) (i := 1) B dU_add_0 rfl rfl ?_
  refine xg_aload_n (pc := 1) (i := 0) (r := v0) B dU_add_1 rfl rfl ?_
  refine xg_geti (pc := 2) B dU_add_2 flU_15 h (fun x1 ex1 h => ?_)
  refine xg_icmp_lt (pc := 5) (tgt := 50) B dU_add_5 (by decide) h (fun c5 h => ?_) (fun c5 h => ?_)
  · refine xg_sub (ls' := []) [] rfl ?_
    exact wU_add_50 hl B  A h
  · refine xg_iload_n (pc := 8) (i := 1) B dU_add_8 rfl rfl ?_
    refine xg_aload_n (pc := 9) (i := 0) (r := v0) B dU_add_9 rfl rfl ?_
    refine xg_getr (pc := 10) B dU_add_10 flU_9 h (fun x2 ex2 h => ?_)
    refine xg_geti (pc := 13) B dU_add_13 flU_97 h (fun x3 ex3 h => ?_)
    refine xg_icmp_gt (pc := 16) (tgt := 50) B dU_add_16 (by decide) h (fun c16 h => ?_) (fun c16 h => ?_)
    · refine xg_sub (ls' := []) [] rfl ?_
      exact wU_add_50 hl B  A h
    · refine xg_aload_n (pc := 19) (i := 0) (r := v0) B dU_add_19 rfl rfl ?_
      refine xg_geti (pc := 20) B dU_add_20 flU_65 h (fun x4 ex4 h => ?_)
      refine xg_aload_n (pc := 23) (i := 0) (r := v0) B dU_add_23 rfl rfl ?_
      refine xg_geti (pc := 24) B dU_add_24 flU_62 h (fun x5 ex5 h => ?_)
      refine xg_icmp_ge (pc := 27) (tgt := 50) B dU_add_27 (by decide) h (fun c27 h => ?_) (fun c27 h => ?_)
      · refine xg_sub (ls' := []) [] rfl ?_
        exact wU_add_50 hl B  A h
      · refine xg_aload_n (pc := 30) (i := 0) (r := v0) B dU_add_30 rfl rfl ?_
        refine xg_getr (pc := 31) B dU_add_31 flU_19 h (fun x6 ex6 h => ?_)
        refine xg_aload_n (pc := 34) (i := 0) (r := v0) B dU_add_34 rfl rfl ?_
        refine xg_geti (pc := 35) B dU_add_35 flU_65 h (fun x7 ex7 h => ?_)
        refine xg_iload_n (pc := 38) (i := 1) B dU_add_38 rfl rfl ?_
        refine xg_iastore (pc := 39) B dU_add_39 h (fun A8 eA8 h => ?_)
        refine xg_aload_n (pc := 40) (i := 0) (r := v0) B dU_add_40 rfl rfl ?_
        refine xg_dup (pc := 41) B dU_add_41 (xj_rv_cat v0) ?_
        refine xg_geti (pc := 42) B dU_add_42 flU_65 h (fun x9 ex9 h => ?_)
        refine xg_iconst (pc := 45) (v := 1) B dU_add_45 (by decide) ?_
        refine xg_iadd (pc := 46) B dU_add_46 ?_
        refine xg_puti (pc := 47) B dU_add_47 (fpU_65 _) h (fun A10 eA10 h => ?_)
        refine xg_sub (ls' := []) [] rfl ?_
        exact wU_add_50 hl B  A10 h
theorem cU_add {l : Launch} (hl : l.stackTraces = false) (v0 : xj_Rf) (v1 : Int32) (A : xj_H) (r : xj_R) (h : fU_add v0 v1 A = some r) : xj_M l yU_add prog_8_method_11_code 2 none [] 1 [xj_rv v0, .int v1] A r := by
  refine xj_M.of hl (by decide +kernel) (by simp [lg_sl, xj_ic, xj_lc, xj_rv_cat]) (fun z B hA hr => ?_)
  subst hr
  have hw := wU_add hl B v0 v1 A h
  simpa [lv_args, xj_ic, xj_lc, xj_rv_cat] using hw
/-! RecurrenceBook$Unfolding.addDays()V -/
def fU_addDays_62 (A : xj_H) : Option xj_R :=
  some (.inl none, A)
def fU_addDays_52 (k5 : xj_Rf → Int32 → xj_H → Option xj_R) (v0 : xj_Rf) (v1 : Int32) (A : xj_H) : Option xj_R :=
  (xj_gi A v0 6 5).bind fun x1 =>
  k5 v0 (v1 + x1) A
def fU_addDays_5 : Nat → xj_Rf → Int32 → xj_H → Option xj_R
  | 0, _, _, _ => none
  | n + 1, v0, v1, A =>
    (xj_gr A v0 6 0).bind fun x1 =>
    (xj_gi A x1 4 4).bind fun x2 =>
    if x2 < v1 then
      fU_addDays_62  A
    else
      (xj_gi A v0 6 8).bind fun x3 =>
      (xj_gi A v0 6 6).bind fun x4 =>
      if x4 ≤ x3 then
        fU_addDays_62  A
      else
        xj_bv (xj_rq A v0 6 (fU_followMonth v0 v1 A)) fun A5 =>
        (xj_gi A5 v0 6 11).bind fun x6 =>
        if x6 = 0 then
          fU_addDays_52 (fU_addDays_5 n) v0 v1 A5
        else
          xj_bi (xj_rq A5 v0 6 (fU_isMeantInMonth v0 v1 A5)) fun x7 A8 =>
          if x7 = 0 then
            fU_addDays_52 (fU_addDays_5 n) v0 v1 A8
          else
            xj_bv (xj_rq A8 v0 6 (fU_add v0 v1 A8)) fun A9 =>
            fU_addDays_52 (fU_addDays_5 n) v0 v1 A9
def fU_addDays (v0 : xj_Rf) (A : xj_H) : Option xj_R :=
  (xj_gi A v0 6 1).bind fun x1 =>
  fU_addDays_5 xj_fu v0 x1 A
theorem wU_addDays_62 {l : Launch} (hl : l.stackTraces = false) {z : xj_F} (B : xj_B l yU_addDays prog_8_method_3_code 2 none [] 5 z) (A : xj_H) (h : fU_addDays_62  A = some (xf_r z)) : xj_W l z 62 [] [] A := by
  unfold fU_addDays_62 at h
  exact xg_vret B dU_addDays_62 h
theorem wU_addDays_52 {l : Launch} (hl : l.stackTraces = false) {z : xj_F} (B : xj_B l yU_addDays prog_8_method_3_code 2 none [] 5 z) (k5 : xj_Rf → Int32 → xj_H → Option xj_R) (hk5 : ∀ (v0 : xj_Rf) (v1 : Int32) (A : xj_H), k5 v0 v1 A = some (xf_r z) → xj_W l z 5 [(0, xj_rv v0), (1, .int v1)] [] A) (v0 : xj_Rf) (v1 : Int32) (A : xj_H) (h : fU_addDays_52 k5 v0 v1 A = some (xf_r z)) : xj_W l z 52 [(0, xj_rv v0), (1, .int v1)] [] A := by
  unfold fU_addDays_52 at h
  refine xg_iload_n (pc := 52) (i := 1) B dU_addDays_52 rfl rfl ?_
  refine xg_aload_n (pc := 53) (i := 0) (r := v0) B dU_addDays_53 rfl rfl ?_
  refine xg_geti (pc := 54) B dU_addDays_54 flU_55 h (fun x1 ex1 h => ?_)
  refine xg_iadd (pc := 57) B dU_addDays_57 ?_
  refine xg_istore_n (pc := 58) (i := 1) (ls' := [(1, .int (v1 + x1)), (0, xj_rv v0)]) B dU_addDays_58 rfl (by decide) ⟨fun _ => xj_rv_cat v0, xj_nq (a := 1) (i := 1) (by decide), trivial⟩ rfl ?_
  refine xg_goto (pc := 59) (tgt := 5) B dU_addDays_59 (by decide) ?_
  refine xg_sub (ls' := [(0, xj_rv v0), (1, .int (v1 + x1))]) [1, 0] rfl ?_
  exact hk5 v0 (v1 + x1) A h
theorem wU_addDays_5 {l : Launch} (hl : l.stackTraces = false) {z : xj_F} (B : xj_B l yU_addDays prog_8_method_3_code 2 none [] 5 z) : ∀ (n : Nat) (v0 : xj_Rf) (v1 : Int32) (A : xj_H), fU_addDays_5 n v0 v1 A = some (xf_r z) → xj_W l z 5 [(0, xj_rv v0), (1, .int v1)] [] A
  | 0, _, _, _, h => by simp [fU_addDays_5] at h
  | n + 1, v0, v1, A, h => by
    rw [fU_addDays_5] at h
    refine xg_iload_n (pc := 5) (i := 1) B dU_addDays_5 rfl rfl ?_
    refine xg_aload_n (pc := 6) (i := 0) (r := v0) B dU_addDays_6 rfl rfl ?_
    refine xg_getr (pc := 7) B dU_addDays_7 flU_9 h (fun x1 ex1 h => ?_)
    refine xg_geti (pc := 10) B dU_addDays_10 flU_97 h (fun x2 ex2 h => ?_)
    refine xg_icmp_gt (pc := 13) (tgt := 62) B dU_addDays_13 (by decide) h (fun c13 h => ?_) (fun c13 h => ?_)
    · refine xg_sub (ls' := []) [] rfl ?_
      exact wU_addDays_62 hl B  A h
    · refine xg_aload_n (pc := 16) (i := 0) (r := v0) B dU_addDays_16 rfl rfl ?_
      refine xg_geti (pc := 17) B dU_addDays_17 flU_65 h (fun x3 ex3 h => ?_)
      refine xg_aload_n (pc := 20) (i := 0) (r := v0) B dU_addDays_20 rfl rfl ?_
      refine xg_geti (pc := 21) B dU_addDays_21 flU_62 h (fun x4 ex4 h => ?_)
      refine xg_icmp_ge (pc := 24) (tgt := 62) B dU_addDays_24 (by decide) h (fun c24 h => ?_) (fun c24 h => ?_)
      · refine xg_sub (ls' := []) [] rfl ?_
        exact wU_addDays_62 hl B  A h
      · refine xg_aload_n (pc := 27) (i := 0) (r := v0) B dU_addDays_27 rfl rfl ?_
        refine xg_iload_n (pc := 28) (i := 1) B dU_addDays_28 rfl rfl ?_
        obtain ⟨hq29, h⟩ := xj_rq_v h
        refine xg_cv (pc := 29) (av := [xj_rv v0, .int v1]) (st := []) (cy := prog_8_method_9_code) (nLy := 2) (rety := none) (hsy := []) B dU_addDays_29 (xj_go_v B dU_addDays_29 vwU_100 rfl hq29) (xj_vw_c vwU_100) (xj_vw_i vwU_100) (by decide) (by decide) (by decide) rfl (fun r9 h9 => cU_followMonth hl _ _ _ r9 h9) h (fun A5 eA5 h => ?_)
        refine xg_aload_n (pc := 32) (i := 0) (r := v0) B dU_addDays_32 rfl rfl ?_
        refine xg_geti (pc := 33) B dU_addDays_33 flU_103 h (fun x6 ex6 h => ?_)
        refine xg_if_eq (pc := 36) (tgt := 52) B dU_addDays_36 (by decide) h (fun c36 h => ?_) (fun c36 h => ?_)
        · exact wU_addDays_52 hl B (fU_addDays_5 n) (wU_addDays_5 hl B n) v0 v1 A5 h
        · refine xg_aload_n (pc := 39) (i := 0) (r := v0) B dU_addDays_39 rfl rfl ?_
          refine xg_iload_n (pc := 40) (i := 1) B dU_addDays_40 rfl rfl ?_
          obtain ⟨hq41, h⟩ := xj_rq_i h
          refine xg_ci (pc := 41) (av := [xj_rv v0, .int v1]) (st := []) (cy := prog_8_method_10_code) (nLy := 3) (rety := (some .boolean)) (hsy := []) B dU_addDays_41 (xj_go_v B dU_addDays_41 vwU_107 rfl hq41) (xj_vw_c vwU_107) (xj_vw_i vwU_107) (by decide) (by decide) (by decide) rfl (fun r9 h9 => cU_isMeantInMonth hl _ _ _ r9 h9) h (fun x7 A8 eA8 h => ?_)
          refine xg_if_eq (pc := 44) (tgt := 52) B dU_addDays_44 (by decide) h (fun c44 h => ?_) (fun c44 h => ?_)
          · exact wU_addDays_52 hl B (fU_addDays_5 n) (wU_addDays_5 hl B n) v0 v1 A8 h
          · refine xg_aload_n (pc := 47) (i := 0) (r := v0) B dU_addDays_47 rfl rfl ?_
            refine xg_iload_n (pc := 48) (i := 1) B dU_addDays_48 rfl rfl ?_
            obtain ⟨hq49, h⟩ := xj_rq_v h
            refine xg_cv (pc := 49) (av := [xj_rv v0, .int v1]) (st := []) (cy := prog_8_method_11_code) (nLy := 2) (rety := none) (hsy := []) B dU_addDays_49 (xj_go_v B dU_addDays_49 vwU_111 rfl hq49) (xj_vw_c vwU_111) (xj_vw_i vwU_111) (by decide) (by decide) (by decide) rfl (fun r9 h9 => cU_add hl _ _ _ r9 h9) h (fun A9 eA9 h => ?_)
            exact wU_addDays_52 hl B (fU_addDays_5 n) (wU_addDays_5 hl B n) v0 v1 A9 h
theorem wU_addDays {l : Launch} (hl : l.stackTraces = false) {z : xj_F} (B : xj_B l yU_addDays prog_8_method_3_code 2 none [] 5 z) (v0 : xj_Rf) (A : xj_H) (h : fU_addDays v0 A = some (xf_r z)) : xj_W l z 0 [(0, xj_rv v0)] [] A := by
  unfold fU_addDays at h
  refine xg_aload_n (pc := 0) (i := 0) (r := v0) B dU_addDays_0 rfl rfl ?_
  refine xg_geti (pc := 1) B dU_addDays_1 flU_15 h (fun x1 ex1 h => ?_)
  refine xg_istore_n (pc := 4) (i := 1) (ls' := [(1, .int x1), (0, xj_rv v0)]) B dU_addDays_4 rfl (by decide) ⟨fun _ => xj_rv_cat v0, trivial⟩ rfl ?_
  refine xg_sub (ls' := [(0, xj_rv v0), (1, .int x1)]) [1, 0] rfl ?_
  exact wU_addDays_5 hl B xj_fu v0 x1 A h
theorem cU_addDays {l : Launch} (hl : l.stackTraces = false) (v0 : xj_Rf) (A : xj_H) (r : xj_R) (h : fU_addDays v0 A = some r) : xj_M l yU_addDays prog_8_method_3_code 2 none [] 5 [xj_rv v0] A r := by
  refine xj_M.of hl (by decide +kernel) (by simp [lg_sl, xj_ic, xj_lc, xj_rv_cat]) (fun z B hA hr => ?_)
  subst hr
  have hw := wU_addDays hl B v0 A h
  simpa [lv_args, xj_ic, xj_lc, xj_rv_cat] using hw
/-! RecurrenceBook$Unfolding.addWeeks()V -/
def fU_addWeeks_115 (A : xj_H) : Option xj_R :=
  some (.inl none, A)
def fU_addWeeks_96 (k37 : xj_Rf → Int32 → Int32 → xj_H → Option xj_R) (k61 : xj_Rf → Int32 → Int32 → Int32 → xj_H → Option xj_R) (v0 : xj_Rf) (v1 : Int32) (v2 : Int32) (v3 : Int32) (A : xj_H) : Option xj_R :=
  k61 v0 v1 v2 (v3 + 1) A
def fU_addWeeks_61 (k37 : xj_Rf → Int32 → Int32 → xj_H → Option xj_R) : Nat → xj_Rf → Int32 → Int32 → Int32 → xj_H → Option xj_R
  | 0, _, _, _, _, _ => none
  | n + 1, v0, v1, v2, v3, A =>
    if (7 : Int32) ≤ v3 then
      (xj_gi A v0 6 5).bind fun x1 =>
      k37 v0 v1 (v2 + ((7 : Int32) * x1)) A
    else
      xj_bv (xj_rq A v0 6 (fU_followMonth v0 (v2 + v3) A)) fun A2 =>
      (xj_gi A2 v0 6 11).bind fun x3 =>
      if x3 = 0 then
        fU_addWeeks_96 k37 (fU_addWeeks_61 k37 n) v0 v1 v2 v3 A2
      else
        if (v1 &&& ((1 : Int32) <<< (v3 &&& 31))) = 0 then
          fU_addWeeks_96 k37 (fU_addWeeks_61 k37 n) v0 v1 v2 v3 A2
        else
          xj_bv (xj_rq A2 v0 6 (fU_add v0 (v2 + v3) A2)) fun A4 =>
          fU_addWeeks_96 k37 (fU_addWeeks_61 k37 n) v0 v1 v2 v3 A4
def fU_addWeeks_37 : Nat → xj_Rf → Int32 → Int32 → xj_H → Option xj_R
  | 0, _, _, _, _ => none
  | n + 1, v0, v1, v2, A =>
    (xj_gr A v0 6 0).bind fun x1 =>
    (xj_gi A x1 4 4).bind fun x2 =>
    if x2 < v2 then
      fU_addWeeks_115  A
    else
      (xj_gi A v0 6 8).bind fun x3 =>
      (xj_gi A v0 6 6).bind fun x4 =>
      if x4 ≤ x3 then
        fU_addWeeks_115  A
      else
        fU_addWeeks_61 (fU_addWeeks_37 n) xj_fu v0 v1 v2 (0 : Int32) A
def fU_addWeeks_26 (v0 : xj_Rf) (s0 : Int32) (A : xj_H) : Option xj_R :=
  (xj_gi A v0 6 1).bind fun x1 =>
  (xj_gi A v0 6 4).bind fun x2 =>
  fU_addWeeks_37 xj_fu v0 s0 (x1 - x2) A
def fU_addWeeks (v0 : xj_Rf) (A : xj_H) : Option xj_R :=
  (xj_gr A v0 6 0).bind fun x1 =>
  (xj_gi A x1 4 8).bind fun x2 =>
  if x2 = 0 then
    (xj_gi A v0 6 4).bind fun x3 =>
    fU_addWeeks_26 v0 ((1 : Int32) <<< (x3 &&& 31)) A
  else
    (xj_gr A v0 6 0).bind fun x4 =>
    (xj_gi A x4 4 8).bind fun x5 =>
    fU_addWeeks_26 v0 x5 A
theorem wU_addWeeks_115 {l : Launch} (hl : l.stackTraces = false) {z : xj_F} (B : xj_B l yU_addWeeks prog_8_method_4_code 4 none [] 5 z) (A : xj_H) (h : fU_addWeeks_115  A = some (xf_r z)) : xj_W l z 115 [] [] A := by
  unfold fU_addWeeks_115 at h
  exact xg_vret B dU_addWeeks_115 h
theorem wU_addWeeks_96 {l : Launch} (hl : l.stackTraces = false) {z : xj_F} (B : xj_B l yU_addWeeks prog_8_method_4_code 4 none [] 5 z) (k37 : xj_Rf → Int32 → Int32 → xj_H → Option xj_R) (hk37 : ∀ (v0 : xj_Rf) (v1 : Int32) (v2 : Int32) (A : xj_H), k37 v0 v1 v2 A = some (xf_r z) → xj_W l z 37 [(0, xj_rv v0), (1, .int v1), (2, .int v2)] [] A) (k61 : xj_Rf → Int32 → Int32 → Int32 → xj_H → Option xj_R) (hk61 : ∀ (v0 : xj_Rf) (v1 : Int32) (v2 : Int32) (v3 : Int32) (A : xj_H), k61 v0 v1 v2 v3 A = some (xf_r z) → xj_W l z 61 [(0, xj_rv v0), (1, .int v1), (2, .int v2), (3, .int v3)] [] A) (v0 : xj_Rf) (v1 : Int32) (v2 : Int32) (v3 : Int32) (A : xj_H) (h : fU_addWeeks_96 k37 k61 v0 v1 v2 v3 A = some (xf_r z)) : xj_W l z 96 [(0, xj_rv v0), (1, .int v1), (2, .int v2), (3, .int v3)] [] A := by
  unfold fU_addWeeks_96 at h
  refine xg_iinc (pc := 96) (i := 3) (v := (v3 + 1)) (ls' := [(3, .int (v3 + 1)), (0, xj_rv v0), (1, .int v1), (2, .int v2)]) B dU_addWeeks_96 rfl (xj_inc_1 _) (by decide) ⟨xj_nq (a := 0) (i := 3) (by decide), xj_nq (a := 1) (i := 3) (by decide), fun _ => rfl, xj_nq (a := 3) (i := 3) (by decide), trivial⟩ rfl ?_
  refine xg_goto (pc := 99) (tgt := 61) B dU_addWeeks_99 (by decide) ?_
  refine xg_sub (ls' := [(0, xj_rv v0), (1, .int v1), (2, .int v2), (3, .int (v3 + 1))]) [1, 2, 3, 0] rfl ?_
  exact hk61 v0 v1 v2 (v3 + 1) A h
theorem wU_addWeeks_61 {l : Launch} (hl : l.stackTraces = false) {z : xj_F} (B : xj_B l yU_addWeeks prog_8_method_4_code 4 none [] 5 z) (k37 : xj_Rf → Int32 → Int32 → xj_H → Option xj_R) (hk37 : ∀ (v0 : xj_Rf) (v1 : Int32) (v2 : Int32) (A : xj_H), k37 v0 v1 v2 A = some (xf_r z) → xj_W l z 37 [(0, xj_rv v0), (1, .int v1), (2, .int v2)] [] A) : ∀ (n : Nat) (v0 : xj_Rf) (v1 : Int32) (v2 : Int32) (v3 : Int32) (A : xj_H), fU_addWeeks_61 k37 n v0 v1 v2 v3 A = some (xf_r z) → xj_W l z 61 [(0, xj_rv v0), (1, .int v1), (2, .int v2), (3, .int v3)] [] A
  | 0, _, _, _, _, _, h => by simp [fU_addWeeks_61] at h
  | n + 1, v0, v1, v2, v3, A, h => by
    rw [fU_addWeeks_61] at h
    refine xg_iload_n (pc := 61) (i := 3) B dU_addWeeks_61 rfl rfl ?_
    refine xg_bipush (pc := 62) (v := 7) B dU_addWeeks_62 (by decide) ?_
    refine xg_icmp_ge (pc := 64) (tgt := 102) B dU_addWeeks_64 (by decide) h (fun c64 h => ?_) (fun c64 h => ?_)
    · refine xg_iload_n (pc := 102) (i := 2) B dU_addWeeks_102 rfl rfl ?_
      refine xg_bipush (pc := 103) (v := 7) B dU_addWeeks_103 (by decide) ?_
      refine xg_aload_n (pc := 105) (i := 0) (r := v0) B dU_addWeeks_105 rfl rfl ?_
      refine xg_geti (pc := 106) B dU_addWeeks_106 flU_55 h (fun x1 ex1 h => ?_)
      refine xg_imul (pc := 109) B dU_addWeeks_109 ?_
      refine xg_iadd (pc := 110) B dU_addWeeks_110 ?_
      refine xg_istore_n (pc := 111) (i := 2) (ls' := [(2, .int (v2 + ((7 : Int32) * x1))), (0, xj_rv v0), (1, .int v1), (3, .int v3)]) B dU_addWeeks_111 rfl (by decide) ⟨xj_nq (a := 0) (i := 2) (by decide), fun _ => rfl, xj_nq (a := 2) (i := 2) (by decide), xj_nq (a := 3) (i := 2) (by decide), trivial⟩ rfl ?_
      refine xg_goto (pc := 112) (tgt := 37) B dU_addWeeks_112 (by decide) ?_
      refine xg_sub (ls' := [(0, xj_rv v0), (1, .int v1), (2, .int (v2 + ((7 : Int32) * x1)))]) [1, 2, 0] rfl ?_
      exact hk37 v0 v1 (v2 + ((7 : Int32) * x1)) A h
    · refine xg_aload_n (pc := 67) (i := 0) (r := v0) B dU_addWeeks_67 rfl rfl ?_
      refine xg_iload_n (pc := 68) (i := 2) B dU_addWeeks_68 rfl rfl ?_
      refine xg_iload_n (pc := 69) (i := 3) B dU_addWeeks_69 rfl rfl ?_
      refine xg_iadd (pc := 70) B dU_addWeeks_70 ?_
      obtain ⟨hq71, h⟩ := xj_rq_v h
      refine xg_cv (pc := 71) (av := [xj_rv v0, .int (v2 + v3)]) (st := []) (cy := prog_8_method_9_code) (nLy := 2) (rety := none) (hsy := []) B dU_addWeeks_71 (xj_go_v B dU_addWeeks_71 vwU_100 rfl hq71) (xj_vw_c vwU_100) (xj_vw_i vwU_100) (by decide) (by decide) (by decide) rfl (fun r9 h9 => cU_followMonth hl _ _ _ r9 h9) h (fun A2 eA2 h => ?_)
      refine xg_aload_n (pc := 74) (i := 0) (r := v0) B dU_addWeeks_74 rfl rfl ?_
      refine xg_geti (pc := 75) B dU_addWeeks_75 flU_103 h (fun x3 ex3 h => ?_)
      refine xg_if_eq (pc := 78) (tgt := 96) B dU_addWeeks_78 (by decide) h (fun c78 h => ?_) (fun c78 h => ?_)
      · exact wU_addWeeks_96 hl B k37 hk37 (fU_addWeeks_61 k37 n) (wU_addWeeks_61 hl B k37 hk37 n) v0 v1 v2 v3 A2 h
      · refine xg_iload_n (pc := 81) (i := 1) B dU_addWeeks_81 rfl rfl ?_
        refine xg_iconst (pc := 82) (v := 1) B dU_addWeeks_82 (by decide) ?_
        refine xg_iload_n (pc := 83) (i := 3) B dU_addWeeks_83 rfl rfl ?_
        refine xg_ishl (pc := 84) B dU_addWeeks_84 ?_
        refine xg_iand (pc := 85) B dU_addWeeks_85 ?_
        refine xg_if_eq (pc := 86) (tgt := 96) B dU_addWeeks_86 (by decide) h (fun c86 h => ?_) (fun c86 h => ?_)
        · exact wU_addWeeks_96 hl B k37 hk37 (fU_addWeeks_61 k37 n) (wU_addWeeks_61 hl B k37 hk37 n) v0 v1 v2 v3 A2 h
        · refine xg_aload_n (pc := 89) (i := 0) (r := v0) B dU_addWeeks_89 rfl rfl ?_
          refine xg_iload_n (pc := 90) (i := 2) B dU_addWeeks_90 rfl rfl ?_
          refine xg_iload_n (pc := 91) (i := 3) B dU_addWeeks_91 rfl rfl ?_
          refine xg_iadd (pc := 92) B dU_addWeeks_92 ?_
          obtain ⟨hq93, h⟩ := xj_rq_v h
          refine xg_cv (pc := 93) (av := [xj_rv v0, .int (v2 + v3)]) (st := []) (cy := prog_8_method_11_code) (nLy := 2) (rety := none) (hsy := []) B dU_addWeeks_93 (xj_go_v B dU_addWeeks_93 vwU_111 rfl hq93) (xj_vw_c vwU_111) (xj_vw_i vwU_111) (by decide) (by decide) (by decide) rfl (fun r9 h9 => cU_add hl _ _ _ r9 h9) h (fun A4 eA4 h => ?_)
          exact wU_addWeeks_96 hl B k37 hk37 (fU_addWeeks_61 k37 n) (wU_addWeeks_61 hl B k37 hk37 n) v0 v1 v2 v3 A4 h
theorem wU_addWeeks_37 {l : Launch} (hl : l.stackTraces = false) {z : xj_F} (B : xj_B l yU_addWeeks prog_8_method_4_code 4 none [] 5 z) : ∀ (n : Nat) (v0 : xj_Rf) (v1 : Int32) (v2 : Int32) (A : xj_H), fU_addWeeks_37 n v0 v1 v2 A = some (xf_r z) → xj_W l z 37 [(0, xj_rv v0), (1, .int v1), (2, .int v2)] [] A
  | 0, _, _, _, _, h => by simp [fU_addWeeks_37] at h
  | n + 1, v0, v1, v2, A, h => by
    rw [fU_addWeeks_37] at h
    refine xg_iload_n (pc := 37) (i := 2) B dU_addWeeks_37 rfl rfl ?_
    refine xg_aload_n (pc := 38) (i := 0) (r := v0) B dU_addWeeks_38 rfl rfl ?_
    refine xg_getr (pc := 39) B dU_addWeeks_39 flU_9 h (fun x1 ex1 h => ?_)
    refine xg_geti (pc := 42) B dU_addWeeks_42 flU_97 h (fun x2 ex2 h => ?_)
    refine xg_icmp_gt (pc := 45) (tgt := 115) B dU_addWeeks_45 (by decide) h (fun c45 h => ?_) (fun c45 h => ?_)
    · refine xg_sub (ls' := []) [] rfl ?_
      exact wU_addWeeks_115 hl B  A h
    · refine xg_aload_n (pc := 48) (i := 0) (r := v0) B dU_addWeeks_48 rfl rfl ?_
      refine xg_geti (pc := 49) B dU_addWeeks_49 flU_65 h (fun x3 ex3 h => ?_)
      refine xg_aload_n (pc := 52) (i := 0) (r := v0) B dU_addWeeks_52 rfl rfl ?_
      refine xg_geti (pc := 53) B dU_addWeeks_53 flU_62 h (fun x4 ex4 h => ?_)
      refine xg_icmp_ge (pc := 56) (tgt := 115) B dU_addWeeks_56 (by decide) h (fun c56 h => ?_) (fun c56 h => ?_)
      · refine xg_sub (ls' := []) [] rfl ?_
        exact wU_addWeeks_115 hl B  A h
      · refine xg_iconst (pc := 59) (v := 0) B dU_addWeeks_59 (by decide) ?_
        refine xg_istore_n (pc := 60) (i := 3) (ls' := [(3, .int (0 : Int32)), (0, xj_rv v0), (1, .int v1), (2, .int v2)]) B dU_addWeeks_60 rfl (by decide) ⟨xj_nq (a := 0) (i := 3) (by decide), xj_nq (a := 1) (i := 3) (by decide), fun _ => rfl, trivial⟩ rfl ?_
        refine xg_sub (ls' := [(0, xj_rv v0), (1, .int v1), (2, .int v2), (3, .int (0 : Int32))]) [1, 2, 3, 0] rfl ?_
        exact wU_addWeeks_61 hl B (fU_addWeeks_37 n) (wU_addWeeks_37 hl B n) xj_fu v0 v1 v2 (0 : Int32) A h
theorem wU_addWeeks_26 {l : Launch} (hl : l.stackTraces = false) {z : xj_F} (B : xj_B l yU_addWeeks prog_8_method_4_code 4 none [] 5 z) (v0 : xj_Rf) (s0 : Int32) (A : xj_H) (h : fU_addWeeks_26 v0 s0 A = some (xf_r z)) : xj_W l z 26 [(0, xj_rv v0)] [.int s0] A := by
  unfold fU_addWeeks_26 at h
  refine xg_istore_n (pc := 26) (i := 1) (ls' := [(1, .int s0), (0, xj_rv v0)]) B dU_addWeeks_26 rfl (by decide) ⟨fun _ => xj_rv_cat v0, trivial⟩ rfl ?_
  refine xg_aload_n (pc := 27) (i := 0) (r := v0) B dU_addWeeks_27 rfl rfl ?_
  refine xg_geti (pc := 28) B dU_addWeeks_28 flU_15 h (fun x1 ex1 h => ?_)
  refine xg_aload_n (pc := 31) (i := 0) (r := v0) B dU_addWeeks_31 rfl rfl ?_
  refine xg_geti (pc := 32) B dU_addWeeks_32 flU_41 h (fun x2 ex2 h => ?_)
  refine xg_isub (pc := 35) B dU_addWeeks_35 ?_
  refine xg_istore_n (pc := 36) (i := 2) (ls' := [(2, .int (x1 - x2)), (1, .int s0), (0, xj_rv v0)]) B dU_addWeeks_36 rfl (by decide) ⟨fun _ => rfl, xj_nq (a := 0) (i := 2) (by decide), trivial⟩ rfl ?_
  refine xg_sub (ls' := [(0, xj_rv v0), (1, .int s0), (2, .int (x1 - x2))]) [2, 1, 0] rfl ?_
  exact wU_addWeeks_37 hl B xj_fu v0 s0 (x1 - x2) A h
theorem wU_addWeeks {l : Launch} (hl : l.stackTraces = false) {z : xj_F} (B : xj_B l yU_addWeeks prog_8_method_4_code 4 none [] 5 z) (v0 : xj_Rf) (A : xj_H) (h : fU_addWeeks v0 A = some (xf_r z)) : xj_W l z 0 [(0, xj_rv v0)] [] A := by
  unfold fU_addWeeks at h
  refine xg_aload_n (pc := 0) (i := 0) (r := v0) B dU_addWeeks_0 rfl rfl ?_
  refine xg_getr (pc := 1) B dU_addWeeks_1 flU_9 h (fun x1 ex1 h => ?_)
  refine xg_geti (pc := 4) B dU_addWeeks_4 flU_114 h (fun x2 ex2 h => ?_)
  refine xg_if_eq (pc := 7) (tgt := 20) B dU_addWeeks_7 (by decide) h (fun c7 h => ?_) (fun c7 h => ?_)
  · refine xg_iconst (pc := 20) (v := 1) B dU_addWeeks_20 (by decide) ?_
    refine xg_aload_n (pc := 21) (i := 0) (r := v0) B dU_addWeeks_21 rfl rfl ?_
    refine xg_geti (pc := 22) B dU_addWeeks_22 flU_41 h (fun x3 ex3 h => ?_)
    refine xg_ishl (pc := 25) B dU_addWeeks_25 ?_
    exact wU_addWeeks_26 hl B v0 ((1 : Int32) <<< (x3 &&& 31)) A h
  · refine xg_aload_n (pc := 10) (i := 0) (r := v0) B dU_addWeeks_10 rfl rfl ?_
    refine xg_getr (pc := 11) B dU_addWeeks_11 flU_9 h (fun x4 ex4 h => ?_)
    refine xg_geti (pc := 14) B dU_addWeeks_14 flU_114 h (fun x5 ex5 h => ?_)
    refine xg_goto (pc := 17) (tgt := 26) B dU_addWeeks_17 (by decide) ?_
    exact wU_addWeeks_26 hl B v0 x5 A h
theorem cU_addWeeks {l : Launch} (hl : l.stackTraces = false) (v0 : xj_Rf) (A : xj_H) (r : xj_R) (h : fU_addWeeks v0 A = some r) : xj_M l yU_addWeeks prog_8_method_4_code 4 none [] 5 [xj_rv v0] A r := by
  refine xj_M.of hl (by decide +kernel) (by simp [lg_sl, xj_ic, xj_lc, xj_rv_cat]) (fun z B hA hr => ?_)
  subst hr
  have hw := wU_addWeeks hl B v0 A h
  simpa [lv_args, xj_ic, xj_lc, xj_rv_cat] using hw
/-! RecurrenceBook$Unfolding.addMonth(I)V -/
def fU_addMonth_89 (k41 : xj_Rf → Int32 → Int32 → xj_H → Option xj_R) (v0 : xj_Rf) (v2 : Int32) (v3 : Int32) (A : xj_H) : Option xj_R :=
  k41 v0 v2 (v3 + 1) A
def fU_addMonth_83 (k41 : xj_Rf → Int32 → Int32 → xj_H → Option xj_R) (v0 : xj_Rf) (v2 : Int32) (v3 : Int32) (v4 : Int32) (A : xj_H) : Option xj_R :=
  xj_bv (xj_rq A v0 6 (fU_add v0 v4 A)) fun A1 =>
  fU_addMonth_89 k41 v0 v2 v3 A1
def fU_addMonth_41 : Nat → xj_Rf → Int32 → Int32 → xj_H → Option xj_R
  | 0, _, _, _, _ => none
  | n + 1, v0, v2, v3, A =>
    (xj_gi A v0 6 10).bind fun x1 =>
    if x1 < v3 then
      some (.inl none, A)
    else
      (xj_gi A v0 6 9).bind fun x2 =>
      if v2 = 0 then
        xj_bi (xj_rq A v0 6 (fU_isMeantInMonth v0 ((x2 + v3) - (1 : Int32)) A)) fun x3 A4 =>
        if x3 = 0 then
          fU_addMonth_89 (fU_addMonth_41 n) v0 v2 v3 A4
        else
          fU_addMonth_83 (fU_addMonth_41 n) v0 v2 v3 ((x2 + v3) - (1 : Int32)) A4
      else
        (xj_gi A v0 6 3).bind fun x5 =>
        if ¬ v3 = x5 then
          fU_addMonth_89 (fU_addMonth_41 n) v0 v2 v3 A
        else
          fU_addMonth_83 (fU_addMonth_41 n) v0 v2 v3 ((x2 + v3) - (1 : Int32)) A
def fU_addMonth_38 (v0 : xj_Rf) (s0 : Int32) (A : xj_H) : Option xj_R :=
  fU_addMonth_41 xj_fu v0 s0 (1 : Int32) A
def fU_addMonth_37 (v0 : xj_Rf) (A : xj_H) : Option xj_R :=
  fU_addMonth_38 v0 (0 : Int32) A
def fU_addMonth (v0 : xj_Rf) (v1 : Int32) (A : xj_H) : Option xj_R :=
  xj_bv (xj_rq A v0 6 (fU_enterMonth v0 v1 A)) fun A1 =>
  (xj_gi A1 v0 6 11).bind fun x2 =>
  if ¬ x2 = 0 then
    (xj_gr A1 v0 6 0).bind fun x3 =>
    xj_bi (xj_rq A1 x3 4 (fR_hasNumbers x3 A1)) fun x4 A5 =>
    if ¬ x4 = 0 then
      fU_addMonth_37 v0 A5
    else
      (xj_gr A5 v0 6 0).bind fun x6 =>
      xj_bi (xj_rq A5 x6 4 (fR_hasWeekdays x6 A5)) fun x7 A8 =>
      if ¬ x7 = 0 then
        fU_addMonth_37 v0 A8
      else
        fU_addMonth_38 v0 (1 : Int32) A8
  else
    some (.inl none, A1)
theorem wU_addMonth_89 {l : Launch} (hl : l.stackTraces = false) {z : xj_F} (B : xj_B l yU_addMonth prog_8_method_7_code 5 none [] 4 z) (k41 : xj_Rf → Int32 → Int32 → xj_H → Option xj_R) (hk41 : ∀ (v0 : xj_Rf) (v2 : Int32) (v3 : Int32) (A : xj_H), k41 v0 v2 v3 A = some (xf_r z) → xj_W l z 41 [(0, xj_rv v0), (2, .int v2), (3, .int v3)] [] A) (v0 : xj_Rf) (v2 : Int32) (v3 : Int32) (A : xj_H) (h : fU_addMonth_89 k41 v0 v2 v3 A = some (xf_r z)) : xj_W l z 89 [(0, xj_rv v0), (2, .int v2), (3, .int v3)] [] A := by
  unfold fU_addMonth_89 at h
  refine xg_iinc (pc := 89) (i := 3) (v := (v3 + 1)) (ls' := [(3, .int (v3 + 1)), (0, xj_rv v0), (2, .int v2)]) B dU_addMonth_89 rfl (xj_inc_1 _) (by decide) ⟨xj_nq (a := 0) (i := 3) (by decide), fun _ => rfl, xj_nq (a := 3) (i := 3) (by decide), trivial⟩ rfl ?_
  refine xg_goto (pc := 92) (tgt := 41) B dU_addMonth_92 (by decide) ?_
  refine xg_sub (ls' := [(0, xj_rv v0), (2, .int v2), (3, .int (v3 + 1))]) [1, 2, 0] rfl ?_
  exact hk41 v0 v2 (v3 + 1) A h
theorem wU_addMonth_83 {l : Launch} (hl : l.stackTraces = false) {z : xj_F} (B : xj_B l yU_addMonth prog_8_method_7_code 5 none [] 4 z) (k41 : xj_Rf → Int32 → Int32 → xj_H → Option xj_R) (hk41 : ∀ (v0 : xj_Rf) (v2 : Int32) (v3 : Int32) (A : xj_H), k41 v0 v2 v3 A = some (xf_r z) → xj_W l z 41 [(0, xj_rv v0), (2, .int v2), (3, .int v3)] [] A) (v0 : xj_Rf) (v2 : Int32) (v3 : Int32) (v4 : Int32) (A : xj_H) (h : fU_addMonth_83 k41 v0 v2 v3 v4 A = some (xf_r z)) : xj_W l z 83 [(0, xj_rv v0), (2, .int v2), (3, .int v3), (4, .int v4)] [] A := by
  unfold fU_addMonth_83 at h
  refine xg_aload_n (pc := 83) (i := 0) (r := v0) B dU_addMonth_83 rfl rfl ?_
  refine xg_iload (pc := 84) (i := 4) B dU_addMonth_84 rfl ?_
  obtain ⟨hq86, h⟩ := xj_rq_v h
  refine xg_cv (pc := 86) (av := [xj_rv v0, .int v4]) (st := []) (cy := prog_8_method_11_code) (nLy := 2) (rety := none) (hsy := []) B dU_addMonth_86 (xj_go_v B dU_addMonth_86 vwU_111 rfl hq86) (xj_vw_c vwU_111) (xj_vw_i vwU_111) (by decide) (by decide) (by decide) rfl (fun r9 h9 => cU_add hl _ _ _ r9 h9) h (fun A1 eA1 h => ?_)
  refine xg_sub (ls' := [(0, xj_rv v0), (2, .int v2), (3, .int v3)]) [0, 1, 2] rfl ?_
  exact wU_addMonth_89 hl B k41 hk41 v0 v2 v3 A1 h
theorem wU_addMonth_41 {l : Launch} (hl : l.stackTraces = false) {z : xj_F} (B : xj_B l yU_addMonth prog_8_method_7_code 5 none [] 4 z) : ∀ (n : Nat) (v0 : xj_Rf) (v2 : Int32) (v3 : Int32) (A : xj_H), fU_addMonth_41 n v0 v2 v3 A = some (xf_r z) → xj_W l z 41 [(0, xj_rv v0), (2, .int v2), (3, .int v3)] [] A
  | 0, _, _, _, _, h => by simp [fU_addMonth_41] at h
  | n + 1, v0, v2, v3, A, h => by
    rw [fU_addMonth_41] at h
    refine xg_iload_n (pc := 41) (i := 3) B dU_addMonth_41 rfl rfl ?_
    refine xg_aload_n (pc := 42) (i := 0) (r := v0) B dU_addMonth_42 rfl rfl ?_
    refine xg_geti (pc := 43) B dU_addMonth_43 flU_130 h (fun x1 ex1 h => ?_)
    refine xg_icmp_gt (pc := 46) (tgt := 95) B dU_addMonth_46 (by decide) h (fun c46 h => ?_) (fun c46 h => ?_)
    · exact xg_vret B dU_addMonth_95 h
    · refine xg_aload_n (pc := 49) (i := 0) (r := v0) B dU_addMonth_49 rfl rfl ?_
      refine xg_geti (pc := 50) B dU_addMonth_50 flU_133 h (fun x2 ex2 h => ?_)
      refine xg_iload_n (pc := 53) (i := 3) B dU_addMonth_53 rfl rfl ?_
      refine xg_iadd (pc := 54) B dU_addMonth_54 ?_
      refine xg_iconst (pc := 55) (v := 1) B dU_addMonth_55 (by decide) ?_
      refine xg_isub (pc := 56) B dU_addMonth_56 ?_
      refine xg_istore (pc := 57) (i := 4) (ls' := [(4, .int ((x2 + v3) - (1 : Int32))), (0, xj_rv v0), (2, .int v2), (3, .int v3)]) B dU_addMonth_57 (by decide) ⟨xj_nq (a := 0) (i := 4) (by decide), xj_nq (a := 2) (i := 4) (by decide), fun _ => rfl, trivial⟩ rfl ?_
      refine xg_iload_n (pc := 59) (i := 2) B dU_addMonth_59 rfl rfl ?_
      refine xg_if_eq (pc := 60) (tgt := 74) B dU_addMonth_60 (by decide) h (fun c60 h => ?_) (fun c60 h => ?_)
      · refine xg_aload_n (pc := 74) (i := 0) (r := v0) B dU_addMonth_74 rfl rfl ?_
        refine xg_iload (pc := 75) (i := 4) B dU_addMonth_75 rfl ?_
        obtain ⟨hq77, h⟩ := xj_rq_i h
        refine xg_ci (pc := 77) (av := [xj_rv v0, .int ((x2 + v3) - (1 : Int32))]) (st := []) (cy := prog_8_method_10_code) (nLy := 3) (rety := (some .boolean)) (hsy := []) B dU_addMonth_77 (xj_go_v B dU_addMonth_77 vwU_107 rfl hq77) (xj_vw_c vwU_107) (xj_vw_i vwU_107) (by decide) (by decide) (by decide) rfl (fun r9 h9 => cU_isMeantInMonth hl _ _ _ r9 h9) h (fun x3 A4 eA4 h => ?_)
        refine xg_if_eq (pc := 80) (tgt := 89) B dU_addMonth_80 (by decide) h (fun c80 h => ?_) (fun c80 h => ?_)
        · refine xg_sub (ls' := [(0, xj_rv v0), (2, .int v2), (3, .int v3)]) [1, 2, 3] rfl ?_
          exact wU_addMonth_89 hl B (fU_addMonth_41 n) (wU_addMonth_41 hl B n) v0 v2 v3 A4 h
        · refine xg_sub (ls' := [(0, xj_rv v0), (2, .int v2), (3, .int v3), (4, .int ((x2 + v3) - (1 : Int32)))]) [1, 2, 3, 0] rfl ?_
          exact wU_addMonth_83 hl B (fU_addMonth_41 n) (wU_addMonth_41 hl B n) v0 v2 v3 ((x2 + v3) - (1 : Int32)) A4 h
      · refine xg_iload_n (pc := 63) (i := 3) B dU_addMonth_63 rfl rfl ?_
        refine xg_aload_n (pc := 64) (i := 0) (r := v0) B dU_addMonth_64 rfl rfl ?_
        refine xg_geti (pc := 65) B dU_addMonth_65 flU_35 h (fun x5 ex5 h => ?_)
        refine xg_icmp_ne (pc := 68) (tgt := 89) B dU_addMonth_68 (by decide) h (fun c68 h => ?_) (fun c68 h => ?_)
        · refine xg_sub (ls' := [(0, xj_rv v0), (2, .int v2), (3, .int v3)]) [1, 2, 3] rfl ?_
          exact wU_addMonth_89 hl B (fU_addMonth_41 n) (wU_addMonth_41 hl B n) v0 v2 v3 A h
        · refine xg_goto (pc := 71) (tgt := 83) B dU_addMonth_71 (by decide) ?_
          refine xg_sub (ls' := [(0, xj_rv v0), (2, .int v2), (3, .int v3), (4, .int ((x2 + v3) - (1 : Int32)))]) [1, 2, 3, 0] rfl ?_
          exact wU_addMonth_83 hl B (fU_addMonth_41 n) (wU_addMonth_41 hl B n) v0 v2 v3 ((x2 + v3) - (1 : Int32)) A h
theorem wU_addMonth_38 {l : Launch} (hl : l.stackTraces = false) {z : xj_F} (B : xj_B l yU_addMonth prog_8_method_7_code 5 none [] 4 z) (v0 : xj_Rf) (s0 : Int32) (A : xj_H) (h : fU_addMonth_38 v0 s0 A = some (xf_r z)) : xj_W l z 38 [(0, xj_rv v0)] [.int s0] A := by
  unfold fU_addMonth_38 at h
  refine xg_istore_n (pc := 38) (i := 2) (ls' := [(2, .int s0), (0, xj_rv v0)]) B dU_addMonth_38 rfl (by decide) ⟨xj_nq (a := 0) (i := 2) (by decide), trivial⟩ rfl ?_
  refine xg_iconst (pc := 39) (v := 1) B dU_addMonth_39 (by decide) ?_
  refine xg_istore_n (pc := 40) (i := 3) (ls' := [(3, .int (1 : Int32)), (2, .int s0), (0, xj_rv v0)]) B dU_addMonth_40 rfl (by decide) ⟨fun _ => rfl, xj_nq (a := 0) (i := 3) (by decide), trivial⟩ rfl ?_
  refine xg_sub (ls' := [(0, xj_rv v0), (2, .int s0), (3, .int (1 : Int32))]) [2, 1, 0] rfl ?_
  exact wU_addMonth_41 hl B xj_fu v0 s0 (1 : Int32) A h
theorem wU_addMonth_37 {l : Launch} (hl : l.stackTraces = false) {z : xj_F} (B : xj_B l yU_addMonth prog_8_method_7_code 5 none [] 4 z) (v0 : xj_Rf) (A : xj_H) (h : fU_addMonth_37 v0 A = some (xf_r z)) : xj_W l z 37 [(0, xj_rv v0)] [] A := by
  unfold fU_addMonth_37 at h
  refine xg_iconst (pc := 37) (v := 0) B dU_addMonth_37 (by decide) ?_
  exact wU_addMonth_38 hl B v0 (0 : Int32) A h
theorem wU_addMonth {l : Launch} (hl : l.stackTraces = false) {z : xj_F} (B : xj_B l yU_addMonth prog_8_method_7_code 5 none [] 4 z) (v0 : xj_Rf) (v1 : Int32) (A : xj_H) (h : fU_addMonth v0 v1 A = some (xf_r z)) : xj_W l z 0 [(0, xj_rv v0), (1, .int v1)] [] A := by
  unfold fU_addMonth at h
  refine xg_aload_n (pc := 0) (i := 0) (r := v0) B dU_addMonth_0 rfl rfl ?_
  refine xg_iload_n (pc := 1) (i := 1) B dU_addMonth_1 rfl rfl ?_
  obtain ⟨hq2, h⟩ := xj_rq_v h
  refine xg_cv (pc := 2) (av := [xj_rv v0, .int v1]) (st := []) (cy := prog_8_method_8_code) (nLy := 2) (rety := none) (hsy := []) B dU_addMonth_2 (xj_go_v B dU_addMonth_2 vwU_66 rfl hq2) (xj_vw_c vwU_66) (xj_vw_i vwU_66) (by decide) (by decide) (by decide) rfl (fun r9 h9 => cU_enterMonth hl _ _ _ r9 h9) h (fun A1 eA1 h => ?_)
  refine xg_aload_n (pc := 5) (i := 0) (r := v0) B dU_addMonth_5 rfl rfl ?_
  refine xg_geti (pc := 6) B dU_addMonth_6 flU_103 h (fun x2 ex2 h => ?_)
  refine xg_if_ne (pc := 9) (tgt := 13) B dU_addMonth_9 (by decide) h (fun c9 h => ?_) (fun c9 h => ?_)
  · refine xg_aload_n (pc := 13) (i := 0) (r := v0) B dU_addMonth_13 rfl rfl ?_
    refine xg_getr (pc := 14) B dU_addMonth_14 flU_9 h (fun x3 ex3 h => ?_)
    obtain ⟨hq17, h⟩ := xj_rq_i h
    refine xg_ci (pc := 17) (av := [xj_rv x3]) (st := []) (cy := prog_5_method_7_code) (nLy := 1) (rety := (some .boolean)) (hsy := []) B dU_addMonth_17 (xj_go_v B dU_addMonth_17 vwU_123 rfl hq17) (xj_vw_c vwU_123) (xj_vw_i vwU_123) (by decide) (by decide) (by decide) rfl (fun r9 h9 => cR_hasNumbers hl _ _ r9 h9) h (fun x4 A5 eA5 h => ?_)
    refine xg_if_ne (pc := 20) (tgt := 37) B dU_addMonth_20 (by decide) h (fun c20 h => ?_) (fun c20 h => ?_)
    · refine xg_sub (ls' := [(0, xj_rv v0)]) [0] rfl ?_
      exact wU_addMonth_37 hl B v0 A5 h
    · refine xg_aload_n (pc := 23) (i := 0) (r := v0) B dU_addMonth_23 rfl rfl ?_
      refine xg_getr (pc := 24) B dU_addMonth_24 flU_9 h (fun x6 ex6 h => ?_)
      obtain ⟨hq27, h⟩ := xj_rq_i h
      refine xg_ci (pc := 27) (av := [xj_rv x6]) (st := []) (cy := prog_5_method_6_code) (nLy := 1) (rety := (some .boolean)) (hsy := []) B dU_addMonth_27 (xj_go_v B dU_addMonth_27 vwU_127 rfl hq27) (xj_vw_c vwU_127) (xj_vw_i vwU_127) (by decide) (by decide) (by decide) rfl (fun r9 h9 => cR_hasWeekdays hl _ _ r9 h9) h (fun x7 A8 eA8 h => ?_)
      refine xg_if_ne (pc := 30) (tgt := 37) B dU_addMonth_30 (by decide) h (fun c30 h => ?_) (fun c30 h => ?_)
      · refine xg_sub (ls' := [(0, xj_rv v0)]) [0] rfl ?_
        exact wU_addMonth_37 hl B v0 A8 h
      · refine xg_iconst (pc := 33) (v := 1) B dU_addMonth_33 (by decide) ?_
        refine xg_goto (pc := 34) (tgt := 38) B dU_addMonth_34 (by decide) ?_
        refine xg_sub (ls' := [(0, xj_rv v0)]) [0] rfl ?_
        exact wU_addMonth_38 hl B v0 (1 : Int32) A8 h
  · exact xg_vret B dU_addMonth_12 h
theorem cU_addMonth {l : Launch} (hl : l.stackTraces = false) (v0 : xj_Rf) (v1 : Int32) (A : xj_H) (r : xj_R) (h : fU_addMonth v0 v1 A = some r) : xj_M l yU_addMonth prog_8_method_7_code 5 none [] 4 [xj_rv v0, .int v1] A r := by
  refine xj_M.of hl (by decide +kernel) (by simp [lg_sl, xj_ic, xj_lc, xj_rv_cat]) (fun z B hA hr => ?_)
  subst hr
  have hw := wU_addMonth hl B v0 v1 A h
  simpa [lv_args, xj_ic, xj_lc, xj_rv_cat] using hw

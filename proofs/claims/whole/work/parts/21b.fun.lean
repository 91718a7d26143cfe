/-! RecurrenceBook.zone(IIIIII)V -/
def fB_zone_113 : Nat → xj_Rf → Int32 → xj_H → Option xj_R
  | 0, _, _, _ => none
  | n + 1, v0, v7, A =>
    (xj_gi A v0 0 4).bind fun x1 =>
    if x1 ≤ v7 then
      some (.inl none, A)
    else
      (xj_gr A v0 0 3).bind fun x2 =>
      (xj_ral A x2 v7).bind fun x3 =>
      (xj_gr A v0 0 2).bind fun x4 =>
      xj_bv (xj_rq A x3 2 (fE_settle x3 x4 A)) fun A5 =>
      (fB_zone_113 n) v0 (v7 + 1) A5
def fB_zone_84 (A : xj_H) : Option xj_R :=
  xj_th A "java/lang/IllegalArgumentException"
def fB_zone_50 (A : xj_H) : Option xj_R :=
  xj_th A "java/lang/IllegalArgumentException"
def fB_zone_19 (A : xj_H) : Option xj_R :=
  xj_th A "java/lang/IllegalArgumentException"
def fB_zone (v0 : xj_Rf) (v1 : Int32) (v2 : Int32) (v3 : Int32) (v4 : Int32) (v5 : Int32) (v6 : Int32) (A : xj_H) : Option xj_R :=
  xj_bi (fB_isOffset v1 A) fun x1 A2 =>
  if x1 = 0 then
    fB_zone_19  A2
  else
    xj_bi (fB_isOffset v2 A2) fun x3 A4 =>
    if x3 = 0 then
      fB_zone_19  A4
    else
      if v1 ≤ v2 then
        xj_bi (fB_isMonth v3 A4) fun x5 A6 =>
        if x5 = 0 then
          fB_zone_50  A6
        else
          xj_bi (fB_isMonth v5 A6) fun x7 A8 =>
          if x7 = 0 then
            fB_zone_50  A8
          else
            if v3 < v5 then
              if v4 < (1 : Int32) then
                fB_zone_84  A8
              else
                if (5 : Int32) < v4 then
                  fB_zone_84  A8
                else
                  if v6 < (1 : Int32) then
                    fB_zone_84  A8
                  else
                    if v6 ≤ (5 : Int32) then
                      (xj_gr A8 v0 0 2).bind fun x9 =>
                      xj_bv (xj_rq A8 x9 1 (fZ_change x9 v1 v2 v3 v4 v5 v6 A8)) fun A10 =>
                      fB_zone_113 xj_fu v0 (0 : Int32) A10
                    else
                      fB_zone_84  A8
            else
              fB_zone_50  A8
      else
        fB_zone_19  A4
theorem wB_zone_113 {l : Launch} (hl : l.stackTraces = false) {z : xj_F} (B : xj_B l yB_zone prog_1_method_3_code 8 none [] 6 z) : ∀ (n : Nat) (v0 : xj_Rf) (v7 : Int32) (A : xj_H), fB_zone_113 n v0 v7 A = some (xf_r z) → xj_W l z 113 [(0, xj_rv v0), (7, .int v7)] [] A
  | 0, _, _, _, h => by simp [fB_zone_113] at h
  | n + 1, v0, v7, A, h => by
    rw [fB_zone_113] at h
    refine xg_iload (pc := 113) (i := 7) B dB_zone_113 rfl ?_
    refine xg_aload_n (pc := 115) (i := 0) (r := v0) B dB_zone_115 rfl rfl ?_
    refine xg_geti (pc := 116) B dB_zone_116 flB_35 h (fun x1 ex1 h => ?_)
    refine xg_icmp_ge (pc := 119) (tgt := 142) B dB_zone_119 (by decide) h (fun c119 h => ?_) (fun c119 h => ?_)
    · exact xg_vret B dB_zone_142 h
    · refine xg_aload_n (pc := 122) (i := 0) (r := v0) B dB_zone_122 rfl rfl ?_
      refine xg_getr (pc := 123) B dB_zone_123 flB_30 h (fun x2 ex2 h => ?_)
      refine xg_iload (pc := 126) (i := 7) B dB_zone_126 rfl ?_
      refine xg_aaload (pc := 128) B dB_zone_128 h (fun x3 ex3 h => ?_)
      refine xg_aload_n (pc := 129) (i := 0) (r := v0) B dB_zone_129 rfl rfl ?_
      refine xg_getr (pc := 130) B dB_zone_130 flB_20 h (fun x4 ex4 h => ?_)
      obtain ⟨hq133, h⟩ := xj_rq_v h
      refine xg_cv (pc := 133) (av := [xj_rv x3, xj_rv x4]) (st := []) (cy := prog_3_method_4_code) (nLy := 5) (rety := none) (hsy := []) B dB_zone_133 (xj_go_v B dB_zone_133 vwB_67 rfl hq133) (xj_vw_c vwB_67) (xj_vw_i vwB_67) (by decide) (by decide) (by decide) rfl (fun r9 h9 => cE_settle hl _ _ _ r9 h9) h (fun A5 eA5 h => ?_)
      refine xg_iinc (pc := 136) (i := 7) (v := (v7 + 1)) (ls' := [(7, .int (v7 + 1)), (0, xj_rv v0)]) B dB_zone_136 rfl (xj_inc_1 _) (by decide) ⟨xj_nq (a := 0) (i := 7) (by decide), xj_nq (a := 7) (i := 7) (by decide), trivial⟩ rfl ?_
      refine xg_goto (pc := 139) (tgt := 113) B dB_zone_139 (by decide) ?_
      refine xg_sub (ls' := [(0, xj_rv v0), (7, .int (v7 + 1))]) [1, 0] rfl ?_
      exact (wB_zone_113 hl B n) v0 (v7 + 1) A5 h
theorem wB_zone_84 {l : Launch} (hl : l.stackTraces = false) {z : xj_F} (B : xj_B l yB_zone prog_1_method_3_code 8 none [] 6 z) (A : xj_H) (h : fB_zone_84  A = some (xf_r z)) : xj_W l z 84 [] [] A := by
  unfold fB_zone_84 at h
  exact xg_throw (pc := 84) B dB_zone_84 dB_zone_87 dB_zone_88 dB_zone_90 dB_zone_93 xwB_53_65_57 (by decide) rfl h
theorem wB_zone_50 {l : Launch} (hl : l.stackTraces = false) {z : xj_F} (B : xj_B l yB_zone prog_1_method_3_code 8 none [] 6 z) (A : xj_H) (h : fB_zone_50  A = some (xf_r z)) : xj_W l z 50 [] [] A := by
  unfold fB_zone_50 at h
  exact xg_throw (pc := 50) B dB_zone_50 dB_zone_53 dB_zone_54 dB_zone_56 dB_zone_59 xwB_53_63_57 (by decide) rfl h
theorem wB_zone_19 {l : Launch} (hl : l.stackTraces = false) {z : xj_F} (B : xj_B l yB_zone prog_1_method_3_code 8 none [] 6 z) (A : xj_H) (h : fB_zone_19  A = some (xf_r z)) : xj_W l z 19 [] [] A := by
  unfold fB_zone_19 at h
  exact xg_throw (pc := 19) B dB_zone_19 dB_zone_22 dB_zone_23 dB_zone_25 dB_zone_28 xwB_53_55_57 (by decide) rfl h
theorem wB_zone {l : Launch} (hl : l.stackTraces = false) {z : xj_F} (B : xj_B l yB_zone prog_1_method_3_code 8 none [] 6 z) (v0 : xj_Rf) (v1 : Int32) (v2 : Int32) (v3 : Int32) (v4 : Int32) (v5 : Int32) (v6 : Int32) (A : xj_H) (h : fB_zone v0 v1 v2 v3 v4 v5 v6 A = some (xf_r z)) : xj_W l z 0 [(0, xj_rv v0), (1, .int v1), (2, .int v2), (3, .int v3), (4, .int v4), (5, .int v5), (6, .int v6)] [] A := by
  unfold fB_zone at h
  refine xg_iload_n (pc := 0) (i := 1) B dB_zone_0 rfl rfl ?_
  refine xg_ci (pc := 1) (av := [.int v1]) (st := []) (cy := prog_1_method_18_code) (nLy := 1) (rety := (some .boolean)) (hsy := []) B dB_zone_1 (xj_go_s B dB_zone_1 swB_49 rfl) swB_49.2.2.1 swB_49.2.2.2.1 (by decide) (by decide) (by decide) rfl (fun r9 h9 => cB_isOffset hl _ _ r9 h9) h (fun x1 A2 eA2 h => ?_)
  refine xg_if_eq (pc := 4) (tgt := 19) B dB_zone_4 (by decide) h (fun c4 h => ?_) (fun c4 h => ?_)
  · refine xg_sub (ls' := []) [] rfl ?_
    exact wB_zone_19 hl B  A2 h
  · refine xg_iload_n (pc := 7) (i := 2) B dB_zone_7 rfl rfl ?_
    refine xg_ci (pc := 8) (av := [.int v2]) (st := []) (cy := prog_1_method_18_code) (nLy := 1) (rety := (some .boolean)) (hsy := []) B dB_zone_8 (xj_go_s B dB_zone_8 swB_49 rfl) swB_49.2.2.1 swB_49.2.2.2.1 (by decide) (by decide) (by decide) rfl (fun r9 h9 => cB_isOffset hl _ _ r9 h9) h (fun x3 A4 eA4 h => ?_)
    refine xg_if_eq (pc := 11) (tgt := 19) B dB_zone_11 (by decide) h (fun c11 h => ?_) (fun c11 h => ?_)
    · refine xg_sub (ls' := []) [] rfl ?_
      exact wB_zone_19 hl B  A4 h
    · refine xg_iload_n (pc := 14) (i := 2) B dB_zone_14 rfl rfl ?_
      refine xg_iload_n (pc := 15) (i := 1) B dB_zone_15 rfl rfl ?_
      refine xg_icmp_ge (pc := 16) (tgt := 29) B dB_zone_16 (by decide) h (fun c16 h => ?_) (fun c16 h => ?_)
      · refine xg_iload_n (pc := 29) (i := 3) B dB_zone_29 rfl rfl ?_
        refine xg_ci (pc := 30) (av := [.int v3]) (st := []) (cy := prog_1_method_19_code) (nLy := 1) (rety := (some .boolean)) (hsy := []) B dB_zone_30 (xj_go_s B dB_zone_30 swB_60 rfl) swB_60.2.2.1 swB_60.2.2.2.1 (by decide) (by decide) (by decide) rfl (fun r9 h9 => cB_isMonth hl _ _ r9 h9) h (fun x5 A6 eA6 h => ?_)
        refine xg_if_eq (pc := 33) (tgt := 50) B dB_zone_33 (by decide) h (fun c33 h => ?_) (fun c33 h => ?_)
        · refine xg_sub (ls' := []) [] rfl ?_
          exact wB_zone_50 hl B  A6 h
        · refine xg_iload (pc := 36) (i := 5) B dB_zone_36 rfl ?_
          refine xg_ci (pc := 38) (av := [.int v5]) (st := []) (cy := prog_1_method_19_code) (nLy := 1) (rety := (some .boolean)) (hsy := []) B dB_zone_38 (xj_go_s B dB_zone_38 swB_60 rfl) swB_60.2.2.1 swB_60.2.2.2.1 (by decide) (by decide) (by decide) rfl (fun r9 h9 => cB_isMonth hl _ _ r9 h9) h (fun x7 A8 eA8 h => ?_)
          refine xg_if_eq (pc := 41) (tgt := 50) B dB_zone_41 (by decide) h (fun c41 h => ?_) (fun c41 h => ?_)
          · refine xg_sub (ls' := []) [] rfl ?_
            exact wB_zone_50 hl B  A8 h
          · refine xg_iload_n (pc := 44) (i := 3) B dB_zone_44 rfl rfl ?_
            refine xg_iload (pc := 45) (i := 5) B dB_zone_45 rfl ?_
            refine xg_icmp_lt (pc := 47) (tgt := 60) B dB_zone_47 (by decide) h (fun c47 h => ?_) (fun c47 h => ?_)
            · refine xg_iload (pc := 60) (i := 4) B dB_zone_60 rfl ?_
              refine xg_iconst (pc := 62) (v := 1) B dB_zone_62 (by decide) ?_
              refine xg_icmp_lt (pc := 63) (tgt := 84) B dB_zone_63 (by decide) h (fun c63 h => ?_) (fun c63 h => ?_)
              · refine xg_sub (ls' := []) [] rfl ?_
                exact wB_zone_84 hl B  A8 h
              · refine xg_iload (pc := 66) (i := 4) B dB_zone_66 rfl ?_
                refine xg_iconst (pc := 68) (v := 5) B dB_zone_68 (by decide) ?_
                refine xg_icmp_gt (pc := 69) (tgt := 84) B dB_zone_69 (by decide) h (fun c69 h => ?_) (fun c69 h => ?_)
                · refine xg_sub (ls' := []) [] rfl ?_
                  exact wB_zone_84 hl B  A8 h
                · refine xg_iload (pc := 72) (i := 6) B dB_zone_72 rfl ?_
                  refine xg_iconst (pc := 74) (v := 1) B dB_zone_74 (by decide) ?_
                  refine xg_icmp_lt (pc := 75) (tgt := 84) B dB_zone_75 (by decide) h (fun c75 h => ?_) (fun c75 h => ?_)
                  · refine xg_sub (ls' := []) [] rfl ?_
                    exact wB_zone_84 hl B  A8 h
                  · refine xg_iload (pc := 78) (i := 6) B dB_zone_78 rfl ?_
                    refine xg_iconst (pc := 80) (v := 5) B dB_zone_80 (by decide) ?_
                    refine xg_icmp_le (pc := 81) (tgt := 94) B dB_zone_81 (by decide) h (fun c81 h => ?_) (fun c81 h => ?_)
                    · refine xg_aload_n (pc := 94) (i := 0) (r := v0) B dB_zone_94 rfl rfl ?_
                      refine xg_getr (pc := 95) B dB_zone_95 flB_20 h (fun x9 ex9 h => ?_)
                      refine xg_iload_n (pc := 98) (i := 1) B dB_zone_98 rfl rfl ?_
                      refine xg_iload_n (pc := 99) (i := 2) B dB_zone_99 rfl rfl ?_
                      refine xg_iload_n (pc := 100) (i := 3) B dB_zone_100 rfl rfl ?_
                      refine xg_iload (pc := 101) (i := 4) B dB_zone_101 rfl ?_
                      refine xg_iload (pc := 103) (i := 5) B dB_zone_103 rfl ?_
                      refine xg_iload (pc := 105) (i := 6) B dB_zone_105 rfl ?_
                      obtain ⟨hq107, h⟩ := xj_rq_v h
                      refine xg_cv (pc := 107) (av := [xj_rv x9, .int v1, .int v2, .int v3, .int v4, .int v5, .int v6]) (st := []) (cy := prog_9_method_2_code) (nLy := 10) (rety := none) (hsy := []) B dB_zone_107 (xj_go_v B dB_zone_107 vwB_24 rfl hq107) (xj_vw_c vwB_24) (xj_vw_i vwB_24) (by decide) (by decide) (by decide) rfl (fun r9 h9 => cZ_change hl _ _ _ _ _ _ _ _ r9 h9) h (fun A10 eA10 h => ?_)
                      refine xg_iconst (pc := 110) (v := 0) B dB_zone_110 (by decide) ?_
                      refine xg_istore (pc := 111) (i := 7) (ls' := [(7, .int (0 : Int32)), (0, xj_rv v0), (1, .int v1), (2, .int v2), (3, .int v3), (4, .int v4), (5, .int v5), (6, .int v6)]) B dB_zone_111 (by decide) ⟨xj_nq (a := 0) (i := 7) (by decide), xj_nq (a := 1) (i := 7) (by decide), xj_nq (a := 2) (i := 7) (by decide), xj_nq (a := 3) (i := 7) (by decide), xj_nq (a := 4) (i := 7) (by decide), xj_nq (a := 5) (i := 7) (by decide), fun _ => rfl, trivial⟩ rfl ?_
                      refine xg_sub (ls' := [(0, xj_rv v0), (7, .int (0 : Int32))]) [1, 0] rfl ?_
                      exact wB_zone_113 hl B xj_fu v0 (0 : Int32) A10 h
                    · refine xg_sub (ls' := []) [] rfl ?_
                      exact wB_zone_84 hl B  A8 h
            · refine xg_sub (ls' := []) [] rfl ?_
              exact wB_zone_50 hl B  A8 h
      · refine xg_sub (ls' := []) [] rfl ?_
        exact wB_zone_19 hl B  A4 h
theorem cB_zone {l : Launch} (hl : l.stackTraces = false) (v0 : xj_Rf) (v1 : Int32) (v2 : Int32) (v3 : Int32) (v4 : Int32) (v5 : Int32) (v6 : Int32) (A : xj_H) (r : xj_R) (h : fB_zone v0 v1 v2 v3 v4 v5 v6 A = some r) : xj_M l yB_zone prog_1_method_3_code 8 none [] 6 [xj_rv v0, .int v1, .int v2, .int v3, .int v4, .int v5, .int v6] A r := by
  refine xj_M.of hl (by decide +kernel) (by simp [lg_sl, xj_ic, xj_lc, xj_rv_cat]) (fun z B hA hr => ?_)
  subst hr
  have hw := wB_zone hl B v0 v1 v2 v3 v4 v5 v6 A h
  simpa [lv_args, xj_ic, xj_lc, xj_rv_cat] using hw
/-! RecurrenceBook$Rule.<init>()V -/
def fR_init (v0 : xj_Rf) (A : xj_H) : Option xj_R :=
  if xj_isw v0 = true then
  (xj_pv A v0 4 0 (xj_rv none)).bind fun A1 =>
  (xj_pv A1 v0 4 4 (.int (36524 : Int32))).bind fun A2 =>
  some (.inl none, A2)
  else none
theorem wR_init {l : Launch} (hl : l.stackTraces = false) {z : xj_F} (B : xj_B l yR_init prog_5_method_1_code 1 none [] 1 z) (v0 : xj_Rf) (A : xj_H) (h : fR_init v0 A = some (xf_r z)) : xj_W l z 0 [(0, xj_rv v0)] [] A := by
  unfold fR_init at h
  refine xg_aload_n (pc := 0) (i := 0) (r := v0) B dR_init_0 rfl rfl ?_
  obtain ⟨a1, ha1, h⟩ := xj_isw_inv h
  refine xg_objInit (pc := 1) B ha1 dR_init_1 owR_3 ow_i ow_c (by decide) (by decide) ?_
  refine xg_aload_n (pc := 4) (i := 0) (r := v0) B dR_init_4 rfl rfl ?_
  refine xg_null (pc := 5) B dR_init_5 ?_
  refine xg_putr (pc := 6) B (Or.inl ⟨_, rfl⟩) dR_init_6 (fpR_9 _) h (fun A1 eA1 h => ?_)
  refine xg_aload_n (pc := 9) (i := 0) (r := v0) B dR_init_9 rfl rfl ?_
  refine xg_ldc (pc := 10) (v := 36524) B dR_init_10 kR_15 ?_
  refine xg_puti (pc := 12) B dR_init_12 (fpR_16 _) h (fun A2 eA2 h => ?_)
  exact xg_vret B dR_init_15 h
theorem cR_init {l : Launch} (hl : l.stackTraces = false) (v0 : xj_Rf) (A : xj_H) (r : xj_R) (h : fR_init v0 A = some r) : xj_M l yR_init prog_5_method_1_code 1 none [] 1 [xj_rv v0] A r := by
  refine xj_M.of hl (by decide +kernel) (by simp [lg_sl, xj_ic, xj_lc, xj_rv_cat]) (fun z B hA hr => ?_)
  subst hr
  have hw := wR_init hl B v0 A h
  simpa [lv_args, xj_ic, xj_lc, xj_rv_cat] using hw
/-! RecurrenceBook$RuleReader.<init>([CI)V -/
def fQ_init (v0 : xj_Rf) (v1 : xj_Rf) (v2 : Int32) (A : xj_H) : Option xj_R :=
  if xj_isw v0 = true then
  (xj_pv A v0 5 0 (xj_rv v1)).bind fun A1 =>
  (xj_pv A1 v0 5 1 (.int v2)).bind fun A2 =>
  (xj_pv A2 v0 5 2 (.int (0 : Int32))).bind fun A3 =>
  (xj_mk A3 (.inr (4, [.null, .int 0, .int 0, .int 0, .int 0, .int 0, .int 0, .int 0, .int 0, .long 0, .long 0])) 11).bind fun A4 =>
  xj_bv (fR_init (xj_o A3.1.length) A4) fun A5 =>
  (xj_pv A5 v0 5 3 (xj_rv (xj_o A3.1.length))).bind fun A6 =>
  some (.inl none, A6)
  else none
theorem wQ_init {l : Launch} (hl : l.stackTraces = false) {z : xj_F} (B : xj_B l yQ_init prog_6_method_1_code 3 none [] 2 z) (v0 : xj_Rf) (v1 : xj_Rf) (v2 : Int32) (A : xj_H) (h : fQ_init v0 v1 v2 A = some (xf_r z)) : xj_W l z 0 [(0, xj_rv v0), (1, xj_rv v1), (2, .int v2)] [] A := by
  unfold fQ_init at h
  refine xg_aload_n (pc := 0) (i := 0) (r := v0) B dQ_init_0 rfl rfl ?_
  obtain ⟨a1, ha1, h⟩ := xj_isw_inv h
  refine xg_objInit (pc := 1) B ha1 dQ_init_1 owQ_3 ow_i ow_c (by decide) (by decide) ?_
  refine xg_aload_n (pc := 4) (i := 0) (r := v0) B dQ_init_4 rfl rfl ?_
  refine xg_aload_n (pc := 5) (i := 1) (r := v1) B dQ_init_5 rfl rfl ?_
  refine xg_putr (pc := 6) B (Or.inr ⟨_, rfl⟩) dQ_init_6 fpQ_9 h (fun A1 eA1 h => ?_)
  refine xg_aload_n (pc := 9) (i := 0) (r := v0) B dQ_init_9 rfl rfl ?_
  refine xg_iload_n (pc := 10) (i := 2) B dQ_init_10 rfl rfl ?_
  refine xg_puti (pc := 11) B dQ_init_11 fpQ_15 h (fun A2 eA2 h => ?_)
  refine xg_aload_n (pc := 14) (i := 0) (r := v0) B dQ_init_14 rfl rfl ?_
  refine xg_iconst (pc := 15) (v := 0) B dQ_init_15 (by decide) ?_
  refine xg_puti (pc := 16) B dQ_init_16 (fpQ_19 _) h (fun A3 eA3 h => ?_)
  refine xg_aload_n (pc := 19) (i := 0) (r := v0) B dQ_init_19 rfl rfl ?_
  refine xg_new (pc := 20) B dQ_init_20 nkQ_22 h (fun A4 eA4 h => ?_)
  refine xg_dup (pc := 23) B dQ_init_23 (xj_rv_cat (xj_o A3.1.length)) ?_
  refine xg_cv (pc := 24) (av := [xj_rv (xj_o A3.1.length)]) (st := [xj_rv (xj_o A3.1.length), xj_rv v0]) (cy := prog_5_method_1_code) (nLy := 1) (rety := none) (hsy := []) B dQ_init_24 (xj_go_i B dQ_init_24 iwQ_24 rfl) iwQ_24.2.2.1 iwQ_24.2.2.2.1 (by decide) (by decide) (by simp [xj_ic, xj_lc, xj_rv_cat]) rfl (fun r9 h9 => cR_init hl _ _ r9 h9) h (fun A5 eA5 h => ?_)
  refine xg_putr (pc := 27) B (Or.inl ⟨_, rfl⟩) dQ_init_27 fpQ_25 h (fun A6 eA6 h => ?_)
  exact xg_vret B dQ_init_30 h
theorem cQ_init {l : Launch} (hl : l.stackTraces = false) (v0 : xj_Rf) (v1 : xj_Rf) (v2 : Int32) (A : xj_H) (r : xj_R) (h : fQ_init v0 v1 v2 A = some r) : xj_M l yQ_init prog_6_method_1_code 3 none [] 2 [xj_rv v0, xj_rv v1, .int v2] A r := by
  refine xj_M.of hl (by decide +kernel) (by simp [lg_sl, xj_ic, xj_lc, xj_rv_cat]) (fun z B hA hr => ?_)
  subst hr
  have hw := wQ_init hl B v0 v1 v2 A h
  simpa [lv_args, xj_ic, xj_lc, xj_rv_cat] using hw
/-! RecurrenceBook.isDay(I)Z -/
def fB_isDay_15 (s0 : Int32) (A : xj_H) : Option xj_R :=
  xj_rz s0 A
def fB_isDay_14 (A : xj_H) : Option xj_R :=
  fB_isDay_15 (0 : Int32) A
def fB_isDay (v0 : Int32) (A : xj_H) : Option xj_R :=
  if v0 < 0 then
    fB_isDay_14  A
  else
    if (36524 : Int32) < v0 then
      fB_isDay_14  A
    else
      fB_isDay_15 (1 : Int32) A
theorem wB_isDay_15 {l : Launch} (hl : l.stackTraces = false) {z : xj_F} (B : xj_B l yB_isDay prog_1_method_20_code 1 (some .boolean) [] 1 z) (s0 : Int32) (A : xj_H) (h : fB_isDay_15 s0 A = some (xf_r z)) : xj_W l z 15 [] [.int s0] A := by
  unfold fB_isDay_15 at h
  exact xg_zret B dB_isDay_15 h
theorem wB_isDay_14 {l : Launch} (hl : l.stackTraces = false) {z : xj_F} (B : xj_B l yB_isDay prog_1_method_20_code 1 (some .boolean) [] 1 z) (A : xj_H) (h : fB_isDay_14  A = some (xf_r z)) : xj_W l z 14 [] [] A := by
  unfold fB_isDay_14 at h
  refine xg_iconst (pc := 14) (v := 0) B dB_isDay_14 (by decide) ?_
  exact wB_isDay_15 hl B (0 : Int32) A h
theorem wB_isDay {l : Launch} (hl : l.stackTraces = false) {z : xj_F} (B : xj_B l yB_isDay prog_1_method_20_code 1 (some .boolean) [] 1 z) (v0 : Int32) (A : xj_H) (h : fB_isDay v0 A = some (xf_r z)) : xj_W l z 0 [(0, .int v0)] [] A := by
  unfold fB_isDay at h
  refine xg_iload_n (pc := 0) (i := 0) B dB_isDay_0 rfl rfl ?_
  refine xg_if_lt (pc := 1) (tgt := 14) B dB_isDay_1 (by decide) h (fun c1 h => ?_) (fun c1 h => ?_)
  · refine xg_sub (ls' := []) [] rfl ?_
    exact wB_isDay_14 hl B  A h
  · refine xg_iload_n (pc := 4) (i := 0) B dB_isDay_4 rfl rfl ?_
    refine xg_ldc (pc := 5) (v := 36524) B dB_isDay_5 kB_187 ?_
    refine xg_icmp_gt (pc := 7) (tgt := 14) B dB_isDay_7 (by decide) h (fun c7 h => ?_) (fun c7 h => ?_)
    · refine xg_sub (ls' := []) [] rfl ?_
      exact wB_isDay_14 hl B  A h
    · refine xg_iconst (pc := 10) (v := 1) B dB_isDay_10 (by decide) ?_
      refine xg_goto (pc := 11) (tgt := 15) B dB_isDay_11 (by decide) ?_
      refine xg_sub (ls' := []) [] rfl ?_
      exact wB_isDay_15 hl B (1 : Int32) A h
theorem cB_isDay {l : Launch} (hl : l.stackTraces = false) (v0 : Int32) (A : xj_H) (r : xj_R) (h : fB_isDay v0 A = some r) : xj_M l yB_isDay prog_1_method_20_code 1 (some .boolean) [] 1 [.int v0] A r := by
  refine xj_M.of hl (by decide +kernel) (by simp [lg_sl, xj_ic, xj_lc, xj_rv_cat]) (fun z B hA hr => ?_)
  subst hr
  have hw := wB_isDay hl B v0 A h
  simpa [lv_args, xj_ic, xj_lc, xj_rv_cat] using hw
/-! java/lang/String.coder()B -/
def fK_coder_14 (s0 : Int32) (A : xj_H) : Option xj_R :=
  xj_rn .byte s0 A
def fK_coder (v0 : xj_Rf) (A : xj_H) : Option xj_R :=
  if (1 : Int32) = 0 then
    fK_coder_14 (1 : Int32) A
  else
    (xj_sk v0).bind fun x5 =>
    fK_coder_14 x5 A
theorem wK_coder_14 {l : Launch} (hl : l.stackTraces = false) {z : xj_F} (B : xj_B l yK_coder prog_18_method_152_code 1 (some .byte) [] 1 z) (s0 : Int32) (A : xj_H) (h : fK_coder_14 s0 A = some (xf_r z)) : xj_W l z 14 [] [.int s0] A := by
  unfold fK_coder_14 at h
  exact xg_bret B dK_coder_14 h
theorem wK_coder {l : Launch} (hl : l.stackTraces = false) {z : xj_F} (B : xj_B l yK_coder prog_18_method_152_code 1 (some .byte) [] 1 z) (v0 : xj_Rf) (A : xj_H) (h : fK_coder v0 A = some (xf_r z)) : xj_W l z 0 [(0, xj_rv v0)] [] A := by
  unfold fK_coder at h
  refine xg_getcs (pc := 0) B dK_coder_0 gsK_38 ?_
  refine xg_if_eq (pc := 3) (tgt := 13) B dK_coder_3 (by decide) h (fun c3 h => ?_) (fun c3 h => ?_)
  · refine xg_iconst (pc := 13) (v := 1) B dK_coder_13 (by decide) ?_
    refine xg_sub (ls' := []) [] rfl ?_
    exact wK_coder_14 hl B (1 : Int32) A h
  · refine xg_aload_n (pc := 6) (i := 0) (r := v0) B dK_coder_6 rfl rfl ?_
    refine xg_scod (pc := 7) B dK_coder_7 ks_coder h (fun x5 ex5 h => ?_)
    refine xg_goto (pc := 10) (tgt := 14) B dK_coder_10 (by decide) ?_
    refine xg_sub (ls' := []) [] rfl ?_
    exact wK_coder_14 hl B x5 A h
theorem cK_coder {l : Launch} (hl : l.stackTraces = false) (v0 : xj_Rf) (A : xj_H) (r : xj_R) (h : fK_coder v0 A = some r) : xj_M l yK_coder prog_18_method_152_code 1 (some .byte) [] 1 [xj_rv v0] A r := by
  refine xj_M.of hl (by decide +kernel) (by simp [lg_sl, xj_ic, xj_lc, xj_rv_cat]) (fun z B hA hr => ?_)
  subst hr
  have hw := wK_coder hl B v0 A h
  simpa [lv_args, xj_ic, xj_lc, xj_rv_cat] using hw
/-! java/lang/String.length()I -/
def fK_length (v0 : xj_Rf) (A : xj_H) : Option xj_R :=
  (xj_sv v0).bind fun x2 =>
  (xj_sn x2).bind fun x3 =>
  xj_bi (xj_zq v0 (fK_coder v0 A)) fun x6 A7 =>
  some (.inl (some (.int (x3 >>> (x6 &&& 31)))), A7)
theorem wK_length {l : Launch} (hl : l.stackTraces = false) {z : xj_F} (B : xj_B l yK_length prog_18_method_54_code 1 (some .int) [] 2 z) (v0 : xj_Rf) (A : xj_H) (h : fK_length v0 A = some (xf_r z)) : xj_W l z 0 [(0, xj_rv v0)] [] A := by
  unfold fK_length at h
  refine xg_aload_n (pc := 0) (i := 0) (r := v0) B dK_length_0 rfl rfl ?_
  refine xg_sval (pc := 1) B dK_length_1 ks_value h (fun x2 ex2 h => ?_)
  refine xg_sblen (pc := 4) B dK_length_4 h (fun x3 ex3 h => ?_)
  refine xg_aload_n (pc := 5) (i := 0) (r := v0) B dK_length_5 rfl rfl ?_
  obtain ⟨hq6, h⟩ := xj_zq_i h
  refine xg_ci (pc := 6) (av := [xj_rv v0]) (st := [.int x3]) (cy := prog_18_method_152_code) (nLy := 1) (rety := (some .byte)) (hsy := []) B dK_length_6 (xj_go_z B dK_length_6 zwK_335 rfl hq6) zwK_335.2.2.2.1 zwK_335.2.2.2.2.1 (by decide) (by decide) (by simp [xj_ic, xj_lc, xj_rv_cat]) rfl (fun r9 h9 => cK_coder hl _ _ r9 h9) h (fun x6 A7 eA7 h => ?_)
  refine xg_ishr (pc := 9) B dK_length_9 ?_
  exact xg_iret B dK_length_10 h
theorem cK_length {l : Launch} (hl : l.stackTraces = false) (v0 : xj_Rf) (A : xj_H) (r : xj_R) (h : fK_length v0 A = some r) : xj_M l yK_length prog_18_method_54_code 1 (some .int) [] 2 [xj_rv v0] A r := by
  refine xj_M.of hl (by decide +kernel) (by simp [lg_sl, xj_ic, xj_lc, xj_rv_cat]) (fun z B hA hr => ?_)
  subst hr
  have hw := wK_length hl B v0 A h
  simpa [lv_args, xj_ic, xj_lc, xj_rv_cat] using hw
/-! java/lang/String.isLatin1()Z -/
def fK_isLatin1_18 (s0 : Int32) (A : xj_H) : Option xj_R :=
  xj_rz s0 A
def fK_isLatin1_17 (A : xj_H) : Option xj_R :=
  fK_isLatin1_18 (0 : Int32) A
def fK_isLatin1 (v0 : xj_Rf) (A : xj_H) : Option xj_R :=
  if (1 : Int32) = 0 then
    fK_isLatin1_17  A
  else
    (xj_sk v0).bind fun x4 =>
    if ¬ x4 = 0 then
      fK_isLatin1_17  A
    else
      fK_isLatin1_18 (1 : Int32) A
theorem wK_isLatin1_18 {l : Launch} (hl : l.stackTraces = false) {z : xj_F} (B : xj_B l yK_isLatin1 prog_18_method_154_code 1 (some .boolean) [] 1 z) (s0 : Int32) (A : xj_H) (h : fK_isLatin1_18 s0 A = some (xf_r z)) : xj_W l z 18 [] [.int s0] A := by
  unfold fK_isLatin1_18 at h
  exact xg_zret B dK_isLatin1_18 h
theorem wK_isLatin1_17 {l : Launch} (hl : l.stackTraces = false) {z : xj_F} (B : xj_B l yK_isLatin1 prog_18_method_154_code 1 (some .boolean) [] 1 z) (A : xj_H) (h : fK_isLatin1_17  A = some (xf_r z)) : xj_W l z 17 [] [] A := by
  unfold fK_isLatin1_17 at h
  refine xg_iconst (pc := 17) (v := 0) B dK_isLatin1_17 (by decide) ?_
  exact wK_isLatin1_18 hl B (0 : Int32) A h
theorem wK_isLatin1 {l : Launch} (hl : l.stackTraces = false) {z : xj_F} (B : xj_B l yK_isLatin1 prog_18_method_154_code 1 (some .boolean) [] 1 z) (v0 : xj_Rf) (A : xj_H) (h : fK_isLatin1 v0 A = some (xf_r z)) : xj_W l z 0 [(0, xj_rv v0)] [] A := by
  unfold fK_isLatin1 at h
  refine xg_getcs (pc := 0) B dK_isLatin1_0 gsK_38 ?_
  refine xg_if_eq (pc := 3) (tgt := 17) B dK_isLatin1_3 (by decide) h (fun c3 h => ?_) (fun c3 h => ?_)
  · refine xg_sub (ls' := []) [] rfl ?_
    exact wK_isLatin1_17 hl B  A h
  · refine xg_aload_n (pc := 6) (i := 0) (r := v0) B dK_isLatin1_6 rfl rfl ?_
    refine xg_scod (pc := 7) B dK_isLatin1_7 ks_coder h (fun x4 ex4 h => ?_)
    refine xg_if_ne (pc := 10) (tgt := 17) B dK_isLatin1_10 (by decide) h (fun c10 h => ?_) (fun c10 h => ?_)
    · refine xg_sub (ls' := []) [] rfl ?_
      exact wK_isLatin1_17 hl B  A h
    · refine xg_iconst (pc := 13) (v := 1) B dK_isLatin1_13 (by decide) ?_
      refine xg_goto (pc := 14) (tgt := 18) B dK_isLatin1_14 (by decide) ?_
      refine xg_sub (ls' := []) [] rfl ?_
      exact wK_isLatin1_18 hl B (1 : Int32) A h
theorem cK_isLatin1 {l : Launch} (hl : l.stackTraces = false) (v0 : xj_Rf) (A : xj_H) (r : xj_R) (h : fK_isLatin1 v0 A = some r) : xj_M l yK_isLatin1 prog_18_method_154_code 1 (some .boolean) [] 1 [xj_rv v0] A r := by
  refine xj_M.of hl (by decide +kernel) (by simp [lg_sl, xj_ic, xj_lc, xj_rv_cat]) (fun z B hA hr => ?_)
  subst hr
  have hw := wK_isLatin1 hl B v0 A h
  simpa [lv_args, xj_ic, xj_lc, xj_rv_cat] using hw
/-! jdk/internal/util/Preconditions.checkIndex(IILjava/util/function/BiFunction;)I -/
def fP_checkIndex_9 (A : xj_H) : Option xj_R :=
  none
def fP_checkIndex (v0 : Int32) (v1 : Int32) (v2 : xj_Rf) (A : xj_H) : Option xj_R :=
  if v0 < 0 then
    fP_checkIndex_9  A
  else
    if v0 < v1 then
      some (.inl (some (.int v0)), A)
    else
      fP_checkIndex_9  A
theorem wP_checkIndex_9 {l : Launch} (hl : l.stackTraces = false) {z : xj_F} (B : xj_B l yP_checkIndex prog_23_method_11_code 3 (some .int) [] 1 z) (A : xj_H) (h : fP_checkIndex_9  A = some (xf_r z)) : xj_W l z 9 [] [] A := by
  unfold fP_checkIndex_9 at h
  cases h
theorem wP_checkIndex {l : Launch} (hl : l.stackTraces = false) {z : xj_F} (B : xj_B l yP_checkIndex prog_23_method_11_code 3 (some .int) [] 1 z) (v0 : Int32) (v1 : Int32) (v2 : xj_Rf) (A : xj_H) (h : fP_checkIndex v0 v1 v2 A = some (xf_r z)) : xj_W l z 0 [(0, .int v0), (1, .int v1), (2, xj_rv v2)] [] A := by
  unfold fP_checkIndex at h
  refine xg_iload_n (pc := 0) (i := 0) B dP_checkIndex_0 rfl rfl ?_
  refine xg_if_lt (pc := 1) (tgt := 9) B dP_checkIndex_1 (by decide) h (fun c1 h => ?_) (fun c1 h => ?_)
  · refine xg_sub (ls' := []) [] rfl ?_
    exact wP_checkIndex_9 hl B  A h
  · refine xg_iload_n (pc := 4) (i := 0) B dP_checkIndex_4 rfl rfl ?_
    refine xg_iload_n (pc := 5) (i := 1) B dP_checkIndex_5 rfl rfl ?_
    refine xg_icmp_lt (pc := 6) (tgt := 16) B dP_checkIndex_6 (by decide) h (fun c6 h => ?_) (fun c6 h => ?_)
    · refine xg_iload_n (pc := 16) (i := 0) B dP_checkIndex_16 rfl rfl ?_
      exact xg_iret B dP_checkIndex_17 h
    · refine xg_sub (ls' := []) [] rfl ?_
      exact wP_checkIndex_9 hl B  A h
theorem cP_checkIndex {l : Launch} (hl : l.stackTraces = false) (v0 : Int32) (v1 : Int32) (v2 : xj_Rf) (A : xj_H) (r : xj_R) (h : fP_checkIndex v0 v1 v2 A = some r) : xj_M l yP_checkIndex prog_23_method_11_code 3 (some .int) [] 1 [.int v0, .int v1, xj_rv v2] A r := by
  refine xj_M.of hl (by decide +kernel) (by simp [lg_sl, xj_ic, xj_lc, xj_rv_cat]) (fun z B hA hr => ?_)
  subst hr
  have hw := wP_checkIndex hl B v0 v1 v2 A h
  simpa [lv_args, xj_ic, xj_lc, xj_rv_cat] using hw
/-! java/lang/String.checkIndex -/
def fK_checkIndex (v0 : Int32) (v1 : Int32) (A : xj_H) : Option xj_R :=
  xj_bi (fP_checkIndex v0 v1 none A) fun _ A2 =>
  some (.inl none, A2)
theorem wK_checkIndex {l : Launch} (hl : l.stackTraces = false) {z : xj_F} (B : xj_B l yK_checkIndex prog_18_method_155_code 2 none [] 2 z) (v0 : Int32) (v1 : Int32) (A : xj_H) (h : fK_checkIndex v0 v1 A = some (xf_r z)) : xj_W l z 0 [(0, .int v0), (1, .int v1)] [] A := by
  unfold fK_checkIndex at h
  refine xg_iload_n (pc := 0) (i := 0) B dK_checkIndex_0 rfl rfl ?_
  refine xg_iload_n (pc := 1) (i := 1) B dK_checkIndex_1 rfl rfl ?_
  refine xg_getsf (pc := 2) B dK_checkIndex_2 gsK_1053 (fun r8 => ?_)
  refine xg_ci (pc := 5) (av := [.int v0, .int v1, xj_rv r8]) (st := []) B dK_checkIndex_5 (xj_go_s B dK_checkIndex_5 swK_1059 rfl) swK_1059.2.2.1 swK_1059.2.2.2.1 (by decide) (by decide) (by decide) rfl (fun r9 h9 => cP_checkIndex hl v0 v1 r8 A r9 h9) h (fun x1 A2 eA2 h => ?_)
  refine xg_pop (pc := 8) B dK_checkIndex_8 rfl ?_
  exact xg_vret B dK_checkIndex_9 h
theorem cK_checkIndex {l : Launch} (hl : l.stackTraces = false) (v0 : Int32) (v1 : Int32) (A : xj_H) (r : xj_R) (h : fK_checkIndex v0 v1 A = some r) : xj_M l yK_checkIndex prog_18_method_155_code 2 none [] 2 [.int v0, .int v1] A r := by
  refine xj_M.of hl (by decide +kernel) (by simp [lg_sl, xj_ic]) (fun z B hA hr => ?_)
  subst hr
  have hw := wK_checkIndex hl B v0 v1 A h
  simpa [lv_args, xj_ic] using hw

/-! java/lang/StringLatin1.charAt([BI)C -/
def fT_charAt (v0 : xj_Rf) (v1 : Int32) (A : xj_H) : Option xj_R :=
  (xj_sn v0).bind fun x3 =>
  xj_bv (fK_checkIndex v1 x3 A) fun A5 =>
  (xj_sx v0 v1).bind fun x8 =>
  xj_rn .char ((Int32.toUInt32 (x8 &&& (255 : Int32)) % 65536).toInt32) A5
theorem wT_charAt {l : Launch} (hl : l.stackTraces = false) {z : xj_F} (B : xj_B l yT_charAt prog_19_method_2_code 2 (some .char) [] 3 z) (v0 : xj_Rf) (v1 : Int32) (A : xj_H) (h : fT_charAt v0 v1 A = some (xf_r z)) : xj_W l z 0 [(0, xj_rv v0), (1, .int v1)] [] A := by
  unfold fT_charAt at h
  refine xg_iload_n (pc := 0) (i := 1) B dT_charAt_0 rfl rfl ?_
  refine xg_aload_n (pc := 1) (i := 0) (r := v0) B dT_charAt_1 rfl rfl ?_
  refine xg_sblen (pc := 2) B dT_charAt_2 h (fun x3 ex3 h => ?_)
  refine xg_cv (pc := 3) (av := [.int v1, .int x3]) (st := []) (cy := prog_18_method_155_code) (nLy := 2) (rety := none) (hsy := []) B dT_charAt_3 (xj_go_s B dT_charAt_3 swT_9 rfl) swT_9.2.2.1 swT_9.2.2.2.1 (by decide) (by decide) (by decide) rfl (fun r9 h9 => cK_checkIndex hl _ _ _ r9 h9) h (fun A5 eA5 h => ?_)
  refine xg_aload_n (pc := 6) (i := 0) (r := v0) B dT_charAt_6 rfl rfl ?_
  refine xg_iload_n (pc := 7) (i := 1) B dT_charAt_7 rfl rfl ?_
  refine xg_sbload (pc := 8) B dT_charAt_8 h (fun x8 ex8 h => ?_)
  refine xg_sipush (pc := 9) (v := 255) B dT_charAt_9 (by decide) ?_
  refine xg_iand (pc := 12) B dT_charAt_12 ?_
  refine xg_i2c (pc := 13) B dT_charAt_13 ?_
  exact xg_cret B dT_charAt_14 h
theorem cT_charAt {l : Launch} (hl : l.stackTraces = false) (v0 : xj_Rf) (v1 : Int32) (A : xj_H) (r : xj_R) (h : fT_charAt v0 v1 A = some r) : xj_M l yT_charAt prog_19_method_2_code 2 (some .char) [] 3 [xj_rv v0, .int v1] A r := by
  refine xj_M.of hl (by decide +kernel) (by simp [lg_sl, xj_ic, xj_lc, xj_rv_cat]) (fun z B hA hr => ?_)
  subst hr
  have hw := wT_charAt hl B v0 v1 A h
  simpa [lv_args, xj_ic, xj_lc, xj_rv_cat] using hw
/-! java/lang/String.charAt(I)C -/
def fK_charAt (v0 : xj_Rf) (v1 : Int32) (A : xj_H) : Option xj_R :=
  xj_bi (xj_zq v0 (fK_isLatin1 v0 A)) fun x3 A4 =>
  if x3 = 0 then
    none
  else
    (xj_sv v0).bind fun x7 =>
    xj_bi (fT_charAt x7 v1 A4) fun x10 A11 =>
    xj_rn .char x10 A11
theorem wK_charAt {l : Launch} (hl : l.stackTraces = false) {z : xj_F} (B : xj_B l yK_charAt prog_18_method_56_code 2 (some .char) [] 4 z) (v0 : xj_Rf) (v1 : Int32) (A : xj_H) (h : fK_charAt v0 v1 A = some (xf_r z)) : xj_W l z 0 [(0, xj_rv v0), (1, .int v1)] [] A := by
  unfold fK_charAt at h
  refine xg_aload_n (pc := 0) (i := 0) (r := v0) B dK_charAt_0 rfl rfl ?_
  obtain ⟨hq1, h⟩ := xj_zq_i h
  refine xg_ci (pc := 1) (av := [xj_rv v0]) (st := []) (cy := prog_18_method_154_code) (nLy := 1) (rety := (some .boolean)) (hsy := []) B dK_charAt_1 (xj_go_z B dK_charAt_1 zwK_492 rfl hq1) zwK_492.2.2.2.1 zwK_492.2.2.2.2.1 (by decide) (by decide) (by decide) rfl (fun r9 h9 => cK_isLatin1 hl _ _ r9 h9) h (fun x3 A4 eA4 h => ?_)
  refine xg_if_eq (pc := 4) (tgt := 16) B dK_charAt_4 (by decide) h (fun c4 h => ?_) (fun c4 h => ?_)
  · cases h
  · refine xg_aload_n (pc := 7) (i := 0) (r := v0) B dK_charAt_7 rfl rfl ?_
    refine xg_sval (pc := 8) B dK_charAt_8 ks_value h (fun x7 ex7 h => ?_)
    refine xg_iload_n (pc := 11) (i := 1) B dK_charAt_11 rfl rfl ?_
    refine xg_ci (pc := 12) (av := [xj_rv x7, .int v1]) (st := []) (cy := prog_19_method_2_code) (nLy := 2) (rety := (some .char)) (hsy := []) B dK_charAt_12 (xj_go_s B dK_charAt_12 swK_495 rfl) swK_495.2.2.1 swK_495.2.2.2.1 (by decide) (by decide) (by decide) rfl (fun r9 h9 => cT_charAt hl _ _ _ r9 h9) h (fun x10 A11 eA11 h => ?_)
    exact xg_cret B dK_charAt_15 h
theorem cK_charAt {l : Launch} (hl : l.stackTraces = false) (v0 : xj_Rf) (v1 : Int32) (A : xj_H) (r : xj_R) (h : fK_charAt v0 v1 A = some r) : xj_M l yK_charAt prog_18_method_56_code 2 (some .char) [] 4 [xj_rv v0, .int v1] A r := by
  refine xj_M.of hl (by decide +kernel) (by simp [lg_sl, xj_ic, xj_lc, xj_rv_cat]) (fun z B hA hr => ?_)
  subst hr
  have hw := wK_charAt hl B v0 v1 A h
  simpa [lv_args, xj_ic, xj_lc, xj_rv_cat] using hw
/-! RecurrenceBook$RuleReader.takeWord(Ljava/lang/String;)Z -/
def fQ_takeWord_20 : Nat → xj_Rf → xj_Rf → Int32 → xj_H → Option xj_R
  | 0, _, _, _, _ => none
  | n + 1, v0, v1, v2, A =>
    xj_bi (xj_zq v1 (fK_length v1 A)) fun x1 A2 =>
    if x1 ≤ v2 then
      (xj_gi A2 v0 5 2).bind fun x3 =>
      xj_bi (xj_zq v1 (fK_length v1 A2)) fun x4 A5 =>
      (xj_pv A5 v0 5 2 (.int (x3 + x4))).bind fun A6 =>
      xj_rz (1 : Int32) A6
    else
      (xj_gr A2 v0 5 0).bind fun x7 =>
      (xj_gi A2 v0 5 2).bind fun x8 =>
      (xj_ai A2 x7 1 (x8 + v2)).bind fun x9 =>
      xj_bi (xj_zq v1 (fK_charAt v1 v2 A2)) fun x10 A11 =>
      if x9 = x10 then
        (fQ_takeWord_20 n) v0 v1 (v2 + 1) A11
      else
        xj_rz (0 : Int32) A11
def fQ_takeWord (v0 : xj_Rf) (v1 : xj_Rf) (A : xj_H) : Option xj_R :=
  xj_bi (xj_zq v1 (fK_length v1 A)) fun x1 A2 =>
  (xj_gi A2 v0 5 1).bind fun x3 =>
  (xj_gi A2 v0 5 2).bind fun x4 =>
  if x1 ≤ (x3 - x4) then
    fQ_takeWord_20 xj_fu v0 v1 (0 : Int32) A2
  else
    xj_rz (0 : Int32) A2
theorem wQ_takeWord_20 {l : Launch} (hl : l.stackTraces = false) {z : xj_F} (B : xj_B l yQ_takeWord prog_6_method_16_code 3 (some .boolean) [] 5 z) : ∀ (n : Nat) (v0 : xj_Rf) (v1 : xj_Rf) (v2 : Int32) (A : xj_H), fQ_takeWord_20 n v0 v1 v2 A = some (xf_r z) → xj_W l z 20 [(0, xj_rv v0), (1, xj_rv v1), (2, .int v2)] [] A
  | 0, _, _, _, _, h => by simp [fQ_takeWord_20] at h
  | n + 1, v0, v1, v2, A, h => by
    rw [fQ_takeWord_20] at h
    refine xg_iload_n (pc := 20) (i := 2) B dQ_takeWord_20 rfl rfl ?_
    refine xg_aload_n (pc := 21) (i := 1) (r := v1) B dQ_takeWord_21 rfl rfl ?_
    obtain ⟨hq22, h⟩ := xj_zq_i h
    refine xg_ci (pc := 22) (av := [xj_rv v1]) (st := [.int v2]) (cy := prog_18_method_54_code) (nLy := 1) (rety := (some .int)) (hsy := []) B dQ_takeWord_22 (xj_go_z B dQ_takeWord_22 zwQ_160 rfl hq22) zwQ_160.2.2.2.1 zwQ_160.2.2.2.2.1 (by decide) (by decide) (by simp [xj_ic, xj_lc, xj_rv_cat]) rfl (fun r9 h9 => cK_length hl _ _ r9 h9) h (fun x1 A2 eA2 h => ?_)
    refine xg_icmp_ge (pc := 25) (tgt := 55) B dQ_takeWord_25 (by decide) h (fun c25 h => ?_) (fun c25 h => ?_)
    · refine xg_aload_n (pc := 55) (i := 0) (r := v0) B dQ_takeWord_55 rfl rfl ?_
      refine xg_dup (pc := 56) B dQ_takeWord_56 (xj_rv_cat v0) ?_
      refine xg_geti (pc := 57) B dQ_takeWord_57 flQ_19 h (fun x3 ex3 h => ?_)
      refine xg_aload_n (pc := 60) (i := 1) (r := v1) B dQ_takeWord_60 rfl rfl ?_
      obtain ⟨hq61, h⟩ := xj_zq_i h
      refine xg_ci (pc := 61) (av := [xj_rv v1]) (st := [.int x3, xj_rv v0]) (cy := prog_18_method_54_code) (nLy := 1) (rety := (some .int)) (hsy := []) B dQ_takeWord_61 (xj_go_z B dQ_takeWord_61 zwQ_160 rfl hq61) zwQ_160.2.2.2.1 zwQ_160.2.2.2.2.1 (by decide) (by decide) (by simp [xj_ic, xj_lc, xj_rv_cat]) rfl (fun r9 h9 => cK_length hl _ _ r9 h9) h (fun x4 A5 eA5 h => ?_)
      refine xg_iadd (pc := 64) B dQ_takeWord_64 ?_
      refine xg_puti (pc := 65) B dQ_takeWord_65 (fpQ_19 _) h (fun A6 eA6 h => ?_)
      refine xg_iconst (pc := 68) (v := 1) B dQ_takeWord_68 (by decide) ?_
      exact xg_zret B dQ_takeWord_69 h
    · refine xg_aload_n (pc := 28) (i := 0) (r := v0) B dQ_takeWord_28 rfl rfl ?_
      refine xg_getr (pc := 29) B dQ_takeWord_29 flQ_9 h (fun x7 ex7 h => ?_)
      refine xg_aload_n (pc := 32) (i := 0) (r := v0) B dQ_takeWord_32 rfl rfl ?_
      refine xg_geti (pc := 33) B dQ_takeWord_33 flQ_19 h (fun x8 ex8 h => ?_)
      refine xg_iload_n (pc := 36) (i := 2) B dQ_takeWord_36 rfl rfl ?_
      refine xg_iadd (pc := 37) B dQ_takeWord_37 ?_
      refine xg_caload (pc := 38) B dQ_takeWord_38 h (fun x9 ex9 h => ?_)
      refine xg_aload_n (pc := 39) (i := 1) (r := v1) B dQ_takeWord_39 rfl rfl ?_
      refine xg_iload_n (pc := 40) (i := 2) B dQ_takeWord_40 rfl rfl ?_
      obtain ⟨hq41, h⟩ := xj_zq_i h
      refine xg_ci (pc := 41) (av := [xj_rv v1, .int v2]) (st := [.int x9]) (cy := prog_18_method_56_code) (nLy := 2) (rety := (some .char)) (hsy := []) B dQ_takeWord_41 (xj_go_z B dQ_takeWord_41 zwQ_154 rfl hq41) zwQ_154.2.2.2.1 zwQ_154.2.2.2.2.1 (by decide) (by decide) (by simp [xj_ic, xj_lc, xj_rv_cat]) rfl (fun r9 h9 => cK_charAt hl _ _ _ r9 h9) h (fun x10 A11 eA11 h => ?_)
      refine xg_icmp_eq (pc := 44) (tgt := 49) B dQ_takeWord_44 (by decide) h (fun c44 h => ?_) (fun c44 h => ?_)
      · refine xg_iinc (pc := 49) (i := 2) (v := (v2 + 1)) (ls' := [(2, .int (v2 + 1)), (0, xj_rv v0), (1, xj_rv v1)]) B dQ_takeWord_49 rfl (xj_inc_1 _) (by decide) ⟨xj_nq (a := 0) (i := 2) (by decide), fun _ => xj_rv_cat v1, xj_nq (a := 2) (i := 2) (by decide), trivial⟩ rfl ?_
        refine xg_goto (pc := 52) (tgt := 20) B dQ_takeWord_52 (by decide) ?_
        refine xg_sub (ls' := [(0, xj_rv v0), (1, xj_rv v1), (2, .int (v2 + 1))]) [1, 2, 0] rfl ?_
        exact (wQ_takeWord_20 hl B n) v0 v1 (v2 + 1) A11 h
      · refine xg_iconst (pc := 47) (v := 0) B dQ_takeWord_47 (by decide) ?_
        exact xg_zret B dQ_takeWord_48 h
theorem wQ_takeWord {l : Launch} (hl : l.stackTraces = false) {z : xj_F} (B : xj_B l yQ_takeWord prog_6_method_16_code 3 (some .boolean) [] 5 z) (v0 : xj_Rf) (v1 : xj_Rf) (A : xj_H) (h : fQ_takeWord v0 v1 A = some (xf_r z)) : xj_W l z 0 [(0, xj_rv v0), (1, xj_rv v1)] [] A := by
  unfold fQ_takeWord at h
  refine xg_aload_n (pc := 0) (i := 1) (r := v1) B dQ_takeWord_0 rfl rfl ?_
  obtain ⟨hq1, h⟩ := xj_zq_i h
  refine xg_ci (pc := 1) (av := [xj_rv v1]) (st := []) (cy := prog_18_method_54_code) (nLy := 1) (rety := (some .int)) (hsy := []) B dQ_takeWord_1 (xj_go_z B dQ_takeWord_1 zwQ_160 rfl hq1) zwQ_160.2.2.2.1 zwQ_160.2.2.2.2.1 (by decide) (by decide) (by decide) rfl (fun r9 h9 => cK_length hl _ _ r9 h9) h (fun x1 A2 eA2 h => ?_)
  refine xg_aload_n (pc := 4) (i := 0) (r := v0) B dQ_takeWord_4 rfl rfl ?_
  refine xg_geti (pc := 5) B dQ_takeWord_5 flQ_15 h (fun x3 ex3 h => ?_)
  refine xg_aload_n (pc := 8) (i := 0) (r := v0) B dQ_takeWord_8 rfl rfl ?_
  refine xg_geti (pc := 9) B dQ_takeWord_9 flQ_19 h (fun x4 ex4 h => ?_)
  refine xg_isub (pc := 12) B dQ_takeWord_12 ?_
  refine xg_icmp_le (pc := 13) (tgt := 18) B dQ_takeWord_13 (by decide) h (fun c13 h => ?_) (fun c13 h => ?_)
  · refine xg_iconst (pc := 18) (v := 0) B dQ_takeWord_18 (by decide) ?_
    refine xg_istore_n (pc := 19) (i := 2) (ls' := [(2, .int (0 : Int32)), (0, xj_rv v0), (1, xj_rv v1)]) B dQ_takeWord_19 rfl (by decide) ⟨xj_nq (a := 0) (i := 2) (by decide), fun _ => xj_rv_cat v1, trivial⟩ rfl ?_
    refine xg_sub (ls' := [(0, xj_rv v0), (1, xj_rv v1), (2, .int (0 : Int32))]) [1, 2, 0] rfl ?_
    exact wQ_takeWord_20 hl B xj_fu v0 v1 (0 : Int32) A2 h
  · refine xg_iconst (pc := 16) (v := 0) B dQ_takeWord_16 (by decide) ?_
    exact xg_zret B dQ_takeWord_17 h
theorem cQ_takeWord {l : Launch} (hl : l.stackTraces = false) (v0 : xj_Rf) (v1 : xj_Rf) (A : xj_H) (r : xj_R) (h : fQ_takeWord v0 v1 A = some r) : xj_M l yQ_takeWord prog_6_method_16_code 3 (some .boolean) [] 5 [xj_rv v0, xj_rv v1] A r := by
  refine xj_M.of hl (by decide +kernel) (by simp [lg_sl, xj_ic, xj_lc, xj_rv_cat]) (fun z B hA hr => ?_)
  subst hr
  have hw := wQ_takeWord hl B v0 v1 A h
  simpa [lv_args, xj_ic, xj_lc, xj_rv_cat] using hw
/-! RecurrenceBook$RuleReader.readFrequency()Z -/
def fQ_readFrequency_100 (s0 : Int32) (A : xj_H) : Option xj_R :=
  xj_rz s0 A
def fQ_readFrequency_85 (v0 : xj_Rf) (A : xj_H) : Option xj_R :=
  (xj_gr A v0 5 3).bind fun x1 =>
  (xj_gr A x1 4 0).bind fun x2 =>
  if x2 = none then
    fQ_readFrequency_100 (0 : Int32) A
  else
    fQ_readFrequency_100 (1 : Int32) A
def fQ_readFrequency (v0 : xj_Rf) (A : xj_H) : Option xj_R :=
  xj_bi (xj_rq A v0 5 (fQ_takeWord v0 (some (.inr 106)) A)) fun x1 A2 =>
  if x1 = 0 then
    xj_bi (xj_rq A2 v0 5 (fQ_takeWord v0 (some (.inr 107)) A2)) fun x3 A4 =>
    if x3 = 0 then
      xj_bi (xj_rq A4 v0 5 (fQ_takeWord v0 (some (.inr 108)) A4)) fun x5 A6 =>
      if x5 = 0 then
        xj_bi (xj_rq A6 v0 5 (fQ_takeWord v0 (some (.inr 109)) A6)) fun x7 A8 =>
        if x7 = 0 then
          fQ_readFrequency_85 v0 A8
        else
          (xj_gr A8 v0 5 3).bind fun x9 =>
          (xj_pv A8 x9 4 0 (xj_rv (some (.inr 3)))).bind fun A10 =>
          fQ_readFrequency_85 v0 A10
      else
        (xj_gr A6 v0 5 3).bind fun x11 =>
        (xj_pv A6 x11 4 0 (xj_rv (some (.inr 2)))).bind fun A12 =>
        fQ_readFrequency_85 v0 A12
    else
      (xj_gr A4 v0 5 3).bind fun x13 =>
      (xj_pv A4 x13 4 0 (xj_rv (some (.inr 1)))).bind fun A14 =>
      fQ_readFrequency_85 v0 A14
  else
    (xj_gr A2 v0 5 3).bind fun x15 =>
    (xj_pv A2 x15 4 0 (xj_rv (some (.inr 0)))).bind fun A16 =>
    fQ_readFrequency_85 v0 A16
theorem wQ_readFrequency_100 {l : Launch} (hl : l.stackTraces = false) {z : xj_F} (B : xj_B l yQ_readFrequency prog_6_method_4_code 1 (some .boolean) [] 6 z) (s0 : Int32) (A : xj_H) (h : fQ_readFrequency_100 s0 A = some (xf_r z)) : xj_W l z 100 [] [.int s0] A := by
  unfold fQ_readFrequency_100 at h
  exact xg_zret B dQ_readFrequency_100 h
theorem wQ_readFrequency_85 {l : Launch} (hl : l.stackTraces = false) {z : xj_F} (B : xj_B l yQ_readFrequency prog_6_method_4_code 1 (some .boolean) [] 6 z) (v0 : xj_Rf) (A : xj_H) (h : fQ_readFrequency_85 v0 A = some (xf_r z)) : xj_W l z 85 [(0, xj_rv v0)] [] A := by
  unfold fQ_readFrequency_85 at h
  refine xg_aload_n (pc := 85) (i := 0) (r := v0) B dQ_readFrequency_85 rfl rfl ?_
  refine xg_getr (pc := 86) B dQ_readFrequency_86 flQ_25 h (fun x1 ex1 h => ?_)
  refine xg_getr (pc := 89) B dQ_readFrequency_89 flQ_35 h (fun x2 ex2 h => ?_)
  refine xg_ifnull (pc := 92) (tgt := 99) B dQ_readFrequency_92 (by decide) h (fun c92 h => ?_) (fun c92 h => ?_)
  · refine xg_iconst (pc := 99) (v := 0) B dQ_readFrequency_99 (by decide) ?_
    refine xg_sub (ls' := []) [] rfl ?_
    exact wQ_readFrequency_100 hl B (0 : Int32) A h
  · refine xg_iconst (pc := 95) (v := 1) B dQ_readFrequency_95 (by decide) ?_
    refine xg_goto (pc := 96) (tgt := 100) B dQ_readFrequency_96 (by decide) ?_
    refine xg_sub (ls' := []) [] rfl ?_
    exact wQ_readFrequency_100 hl B (1 : Int32) A h
theorem wQ_readFrequency {l : Launch} (hl : l.stackTraces = false) {z : xj_F} (B : xj_B l yQ_readFrequency prog_6_method_4_code 1 (some .boolean) [] 6 z) (v0 : xj_Rf) (A : xj_H) (h : fQ_readFrequency v0 A = some (xf_r z)) : xj_W l z 0 [(0, xj_rv v0)] [] A := by
  unfold fQ_readFrequency at h
  refine xg_aload_n (pc := 0) (i := 0) (r := v0) B dQ_readFrequency_0 rfl rfl ?_
  refine xg_ldcS (pc := 1) (i := 6) B dQ_readFrequency_1 ⟨_, List.mem_of_getElem? (i := 6) rfl⟩ ?_
  obtain ⟨hq3, h⟩ := xj_rq_i h
  refine xg_ci (pc := 3) (av := [xj_rv v0, xj_rv (some (.inr 106))]) (st := []) (cy := prog_6_method_16_code) (nLy := 3) (rety := (some .boolean)) (hsy := []) B dQ_readFrequency_3 (xj_go_v B dQ_readFrequency_3 vwQ_54 rfl hq3) (xj_vw_c vwQ_54) (xj_vw_i vwQ_54) (by decide) (by decide) (by decide) rfl (fun r9 h9 => cQ_takeWord hl _ _ _ r9 h9) h (fun x1 A2 eA2 h => ?_)
  refine xg_if_eq (pc := 6) (tgt := 22) B dQ_readFrequency_6 (by decide) h (fun c6 h => ?_) (fun c6 h => ?_)
  · refine xg_aload_n (pc := 22) (i := 0) (r := v0) B dQ_readFrequency_22 rfl rfl ?_
    refine xg_ldcS (pc := 23) (i := 7) B dQ_readFrequency_23 ⟨_, List.mem_of_getElem? (i := 7) rfl⟩ ?_
    obtain ⟨hq25, h⟩ := xj_rq_i h
    refine xg_ci (pc := 25) (av := [xj_rv v0, xj_rv (some (.inr 107))]) (st := []) (cy := prog_6_method_16_code) (nLy := 3) (rety := (some .boolean)) (hsy := []) B dQ_readFrequency_25 (xj_go_v B dQ_readFrequency_25 vwQ_54 rfl hq25) (xj_vw_c vwQ_54) (xj_vw_i vwQ_54) (by decide) (by decide) (by decide) rfl (fun r9 h9 => cQ_takeWord hl _ _ _ r9 h9) h (fun x3 A4 eA4 h => ?_)
    refine xg_if_eq (pc := 28) (tgt := 44) B dQ_readFrequency_28 (by decide) h (fun c28 h => ?_) (fun c28 h => ?_)
    · refine xg_aload_n (pc := 44) (i := 0) (r := v0) B dQ_readFrequency_44 rfl rfl ?_
      refine xg_ldcS (pc := 45) (i := 8) B dQ_readFrequency_45 ⟨_, List.mem_of_getElem? (i := 8) rfl⟩ ?_
      obtain ⟨hq47, h⟩ := xj_rq_i h
      refine xg_ci (pc := 47) (av := [xj_rv v0, xj_rv (some (.inr 108))]) (st := []) (cy := prog_6_method_16_code) (nLy := 3) (rety := (some .boolean)) (hsy := []) B dQ_readFrequency_47 (xj_go_v B dQ_readFrequency_47 vwQ_54 rfl hq47) (xj_vw_c vwQ_54) (xj_vw_i vwQ_54) (by decide) (by decide) (by decide) rfl (fun r9 h9 => cQ_takeWord hl _ _ _ r9 h9) h (fun x5 A6 eA6 h => ?_)
      refine xg_if_eq (pc := 50) (tgt := 66) B dQ_readFrequency_50 (by decide) h (fun c50 h => ?_) (fun c50 h => ?_)
      · refine xg_aload_n (pc := 66) (i := 0) (r := v0) B dQ_readFrequency_66 rfl rfl ?_
        refine xg_ldcS (pc := 67) (i := 9) B dQ_readFrequency_67 ⟨_, List.mem_of_getElem? (i := 9) rfl⟩ ?_
        obtain ⟨hq69, h⟩ := xj_rq_i h
        refine xg_ci (pc := 69) (av := [xj_rv v0, xj_rv (some (.inr 109))]) (st := []) (cy := prog_6_method_16_code) (nLy := 3) (rety := (some .boolean)) (hsy := []) B dQ_readFrequency_69 (xj_go_v B dQ_readFrequency_69 vwQ_54 rfl hq69) (xj_vw_c vwQ_54) (xj_vw_i vwQ_54) (by decide) (by decide) (by decide) rfl (fun r9 h9 => cQ_takeWord hl _ _ _ r9 h9) h (fun x7 A8 eA8 h => ?_)
        refine xg_if_eq (pc := 72) (tgt := 85) B dQ_readFrequency_72 (by decide) h (fun c72 h => ?_) (fun c72 h => ?_)
        · exact wQ_readFrequency_85 hl B v0 A8 h
        · refine xg_aload_n (pc := 75) (i := 0) (r := v0) B dQ_readFrequency_75 rfl rfl ?_
          refine xg_getr (pc := 76) B dQ_readFrequency_76 flQ_25 h (fun x9 ex9 h => ?_)
          refine xg_gete (pc := 79) (i := 3) B dQ_readFrequency_79 (by decide) gsQ_118 ?_
          refine xg_putr (pc := 82) B (Or.inl ⟨_, rfl⟩) dQ_readFrequency_82 (fpQ_35 _) h (fun A10 eA10 h => ?_)
          exact wQ_readFrequency_85 hl B v0 A10 h
      · refine xg_aload_n (pc := 53) (i := 0) (r := v0) B dQ_readFrequency_53 rfl rfl ?_
        refine xg_getr (pc := 54) B dQ_readFrequency_54 flQ_25 h (fun x11 ex11 h => ?_)
        refine xg_gete (pc := 57) (i := 2) B dQ_readFrequency_57 (by decide) gsQ_114 ?_
        refine xg_putr (pc := 60) B (Or.inl ⟨_, rfl⟩) dQ_readFrequency_60 (fpQ_35 _) h (fun A12 eA12 h => ?_)
        refine xg_goto (pc := 63) (tgt := 85) B dQ_readFrequency_63 (by decide) ?_
        exact wQ_readFrequency_85 hl B v0 A12 h
    · refine xg_aload_n (pc := 31) (i := 0) (r := v0) B dQ_readFrequency_31 rfl rfl ?_
      refine xg_getr (pc := 32) B dQ_readFrequency_32 flQ_25 h (fun x13 ex13 h => ?_)
      refine xg_gete (pc := 35) (i := 1) B dQ_readFrequency_35 (by decide) gsQ_110 ?_
      refine xg_putr (pc := 38) B (Or.inl ⟨_, rfl⟩) dQ_readFrequency_38 (fpQ_35 _) h (fun A14 eA14 h => ?_)
      refine xg_goto (pc := 41) (tgt := 85) B dQ_readFrequency_41 (by decide) ?_
      exact wQ_readFrequency_85 hl B v0 A14 h
  · refine xg_aload_n (pc := 9) (i := 0) (r := v0) B dQ_readFrequency_9 rfl rfl ?_
    refine xg_getr (pc := 10) B dQ_readFrequency_10 flQ_25 h (fun x15 ex15 h => ?_)
    refine xg_gete (pc := 13) (i := 0) B dQ_readFrequency_13 (by decide) gsQ_29 ?_
    refine xg_putr (pc := 16) B (Or.inl ⟨_, rfl⟩) dQ_readFrequency_16 (fpQ_35 _) h (fun A16 eA16 h => ?_)
    refine xg_goto (pc := 19) (tgt := 85) B dQ_readFrequency_19 (by decide) ?_
    exact wQ_readFrequency_85 hl B v0 A16 h
theorem cQ_readFrequency {l : Launch} (hl : l.stackTraces = false) (v0 : xj_Rf) (A : xj_H) (r : xj_R) (h : fQ_readFrequency v0 A = some r) : xj_M l yQ_readFrequency prog_6_method_4_code 1 (some .boolean) [] 6 [xj_rv v0] A r := by
  refine xj_M.of hl (by decide +kernel) (by simp [lg_sl, xj_ic, xj_lc, xj_rv_cat]) (fun z B hA hr => ?_)
  subst hr
  have hw := wQ_readFrequency hl B v0 A h
  simpa [lv_args, xj_ic, xj_lc, xj_rv_cat] using hw
/-! RecurrenceBook$RuleReader.isDigitNext()Z -/
def fQ_isDigitNext_44 (s0 : Int32) (A : xj_H) : Option xj_R :=
  xj_rz s0 A
def fQ_isDigitNext_43 (A : xj_H) : Option xj_R :=
  fQ_isDigitNext_44 (0 : Int32) A
def fQ_isDigitNext (v0 : xj_Rf) (A : xj_H) : Option xj_R :=
  (xj_gi A v0 5 2).bind fun x1 =>
  (xj_gi A v0 5 1).bind fun x2 =>
  if x2 ≤ x1 then
    fQ_isDigitNext_43  A
  else
    (xj_gr A v0 5 0).bind fun x3 =>
    (xj_gi A v0 5 2).bind fun x4 =>
    (xj_ai A x3 1 x4).bind fun x5 =>
    if x5 < (48 : Int32) then
      fQ_isDigitNext_43  A
    else
      (xj_gr A v0 5 0).bind fun x6 =>
      (xj_gi A v0 5 2).bind fun x7 =>
      (xj_ai A x6 1 x7).bind fun x8 =>
      if (57 : Int32) < x8 then
        fQ_isDigitNext_43  A
      else
        fQ_isDigitNext_44 (1 : Int32) A
theorem wQ_isDigitNext_44 {l : Launch} (hl : l.stackTraces = false) {z : xj_F} (B : xj_B l yQ_isDigitNext prog_6_method_14_code 1 (some .boolean) [] 1 z) (s0 : Int32) (A : xj_H) (h : fQ_isDigitNext_44 s0 A = some (xf_r z)) : xj_W l z 44 [] [.int s0] A := by
  unfold fQ_isDigitNext_44 at h
  exact xg_zret B dQ_isDigitNext_44 h
theorem wQ_isDigitNext_43 {l : Launch} (hl : l.stackTraces = false) {z : xj_F} (B : xj_B l yQ_isDigitNext prog_6_method_14_code 1 (some .boolean) [] 1 z) (A : xj_H) (h : fQ_isDigitNext_43  A = some (xf_r z)) : xj_W l z 43 [] [] A := by
  unfold fQ_isDigitNext_43 at h
  refine xg_iconst (pc := 43) (v := 0) B dQ_isDigitNext_43 (by decide) ?_
  exact wQ_isDigitNext_44 hl B (0 : Int32) A h
theorem wQ_isDigitNext {l : Launch} (hl : l.stackTraces = false) {z : xj_F} (B : xj_B l yQ_isDigitNext prog_6_method_14_code 1 (some .boolean) [] 1 z) (v0 : xj_Rf) (A : xj_H) (h : fQ_isDigitNext v0 A = some (xf_r z)) : xj_W l z 0 [(0, xj_rv v0)] [] A := by
  unfold fQ_isDigitNext at h
  refine xg_aload_n (pc := 0) (i := 0) (r := v0) B dQ_isDigitNext_0 rfl rfl ?_
  refine xg_geti (pc := 1) B dQ_isDigitNext_1 flQ_19 h (fun x1 ex1 h => ?_)
  refine xg_aload_n (pc := 4) (i := 0) (r := v0) B dQ_isDigitNext_4 rfl rfl ?_
  refine xg_geti (pc := 5) B dQ_isDigitNext_5 flQ_15 h (fun x2 ex2 h => ?_)
  refine xg_icmp_ge (pc := 8) (tgt := 43) B dQ_isDigitNext_8 (by decide) h (fun c8 h => ?_) (fun c8 h => ?_)
  · refine xg_sub (ls' := []) [] rfl ?_
    exact wQ_isDigitNext_43 hl B  A h
  · refine xg_aload_n (pc := 11) (i := 0) (r := v0) B dQ_isDigitNext_11 rfl rfl ?_
    refine xg_getr (pc := 12) B dQ_isDigitNext_12 flQ_9 h (fun x3 ex3 h => ?_)
    refine xg_aload_n (pc := 15) (i := 0) (r := v0) B dQ_isDigitNext_15 rfl rfl ?_
    refine xg_geti (pc := 16) B dQ_isDigitNext_16 flQ_19 h (fun x4 ex4 h => ?_)
    refine xg_caload (pc := 19) B dQ_isDigitNext_19 h (fun x5 ex5 h => ?_)
    refine xg_bipush (pc := 20) (v := 48) B dQ_isDigitNext_20 (by decide) ?_
    refine xg_icmp_lt (pc := 22) (tgt := 43) B dQ_isDigitNext_22 (by decide) h (fun c22 h => ?_) (fun c22 h => ?_)
    · refine xg_sub (ls' := []) [] rfl ?_
      exact wQ_isDigitNext_43 hl B  A h
    · refine xg_aload_n (pc := 25) (i := 0) (r := v0) B dQ_isDigitNext_25 rfl rfl ?_
      refine xg_getr (pc := 26) B dQ_isDigitNext_26 flQ_9 h (fun x6 ex6 h => ?_)
      refine xg_aload_n (pc := 29) (i := 0) (r := v0) B dQ_isDigitNext_29 rfl rfl ?_
      refine xg_geti (pc := 30) B dQ_isDigitNext_30 flQ_19 h (fun x7 ex7 h => ?_)
      refine xg_caload (pc := 33) B dQ_isDigitNext_33 h (fun x8 ex8 h => ?_)
      refine xg_bipush (pc := 34) (v := 57) B dQ_isDigitNext_34 (by decide) ?_
      refine xg_icmp_gt (pc := 36) (tgt := 43) B dQ_isDigitNext_36 (by decide) h (fun c36 h => ?_) (fun c36 h => ?_)
      · refine xg_sub (ls' := []) [] rfl ?_
        exact wQ_isDigitNext_43 hl B  A h
      · refine xg_iconst (pc := 39) (v := 1) B dQ_isDigitNext_39 (by decide) ?_
        refine xg_goto (pc := 40) (tgt := 44) B dQ_isDigitNext_40 (by decide) ?_
        refine xg_sub (ls' := []) [] rfl ?_
        exact wQ_isDigitNext_44 hl B (1 : Int32) A h
theorem cQ_isDigitNext {l : Launch} (hl : l.stackTraces = false) (v0 : xj_Rf) (A : xj_H) (r : xj_R) (h : fQ_isDigitNext v0 A = some r) : xj_M l yQ_isDigitNext prog_6_method_14_code 1 (some .boolean) [] 1 [xj_rv v0] A r := by
  refine xj_M.of hl (by decide +kernel) (by simp [lg_sl, xj_ic, xj_lc, xj_rv_cat]) (fun z B hA hr => ?_)
  subst hr
  have hw := wQ_isDigitNext hl B v0 A h
  simpa [lv_args, xj_ic, xj_lc, xj_rv_cat] using hw
/-! RecurrenceBook$RuleReader.takeNumber(II)I -/
def fQ_takeNumber_62 (s0 : Int32) (A : xj_H) : Option xj_R :=
  some (.inl (some (.int s0)), A)
def fQ_takeNumber_52 (v2 : Int32) (v3 : Int32) (A : xj_H) : Option xj_R :=
  if v2 < v3 then
    fQ_takeNumber_62 (0 : Int32) A
  else
    fQ_takeNumber_62 v3 A
def fQ_takeNumber_5 : Nat → xj_Rf → Int32 → Int32 → Int32 → Int32 → xj_H → Option xj_R
  | 0, _, _, _, _, _, _ => none
  | n + 1, v0, v1, v2, v3, v4, A =>
    if v1 ≤ v4 then
      fQ_takeNumber_52 v2 v3 A
    else
      xj_bi (xj_rq A v0 5 (fQ_isDigitNext v0 A)) fun x1 A2 =>
      if x1 = 0 then
        fQ_takeNumber_52 v2 v3 A2
      else
        (xj_gr A2 v0 5 0).bind fun x3 =>
        (xj_gi A2 v0 5 2).bind fun x4 =>
        (xj_ai A2 x3 1 x4).bind fun x5 =>
        (xj_gi A2 v0 5 2).bind fun x6 =>
        (xj_pv A2 v0 5 2 (.int (x6 + (1 : Int32)))).bind fun A7 =>
        (fQ_takeNumber_5 n) v0 v1 v2 ((((10 : Int32) * v3) + x5) - (48 : Int32)) (v4 + 1) A7
def fQ_takeNumber (v0 : xj_Rf) (v1 : Int32) (v2 : Int32) (A : xj_H) : Option xj_R :=
  fQ_takeNumber_5 xj_fu v0 v1 v2 (0 : Int32) (0 : Int32) A
theorem wQ_takeNumber_62 {l : Launch} (hl : l.stackTraces = false) {z : xj_F} (B : xj_B l yQ_takeNumber prog_6_method_13_code 5 (some .int) [] 2 z) (s0 : Int32) (A : xj_H) (h : fQ_takeNumber_62 s0 A = some (xf_r z)) : xj_W l z 62 [] [.int s0] A := by
  unfold fQ_takeNumber_62 at h
  exact xg_iret B dQ_takeNumber_62 h
theorem wQ_takeNumber_52 {l : Launch} (hl : l.stackTraces = false) {z : xj_F} (B : xj_B l yQ_takeNumber prog_6_method_13_code 5 (some .int) [] 2 z) (v2 : Int32) (v3 : Int32) (A : xj_H) (h : fQ_takeNumber_52 v2 v3 A = some (xf_r z)) : xj_W l z 52 [(2, .int v2), (3, .int v3)] [] A := by
  unfold fQ_takeNumber_52 at h
  refine xg_iload_n (pc := 52) (i := 3) B dQ_takeNumber_52 rfl rfl ?_
  refine xg_iload_n (pc := 53) (i := 2) B dQ_takeNumber_53 rfl rfl ?_
  refine xg_icmp_gt (pc := 54) (tgt := 61) B dQ_takeNumber_54 (by decide) h (fun c54 h => ?_) (fun c54 h => ?_)
  · refine xg_iconst (pc := 61) (v := 0) B dQ_takeNumber_61 (by decide) ?_
    refine xg_sub (ls' := []) [] rfl ?_
    exact wQ_takeNumber_62 hl B (0 : Int32) A h
  · refine xg_iload_n (pc := 57) (i := 3) B dQ_takeNumber_57 rfl rfl ?_
    refine xg_goto (pc := 58) (tgt := 62) B dQ_takeNumber_58 (by decide) ?_
    refine xg_sub (ls' := []) [] rfl ?_
    exact wQ_takeNumber_62 hl B v3 A h
theorem wQ_takeNumber_5 {l : Launch} (hl : l.stackTraces = false) {z : xj_F} (B : xj_B l yQ_takeNumber prog_6_method_13_code 5 (some .int) [] 2 z) : ∀ (n : Nat) (v0 : xj_Rf) (v1 : Int32) (v2 : Int32) (v3 : Int32) (v4 : Int32) (A : xj_H), fQ_takeNumber_5 n v0 v1 v2 v3 v4 A = some (xf_r z) → xj_W l z 5 [(0, xj_rv v0), (1, .int v1), (2, .int v2), (3, .int v3), (4, .int v4)] [] A
  | 0, _, _, _, _, _, _, h => by simp [fQ_takeNumber_5] at h
  | n + 1, v0, v1, v2, v3, v4, A, h => by
    rw [fQ_takeNumber_5] at h
    refine xg_iload (pc := 5) (i := 4) B dQ_takeNumber_5 rfl ?_
    refine xg_iload_n (pc := 7) (i := 1) B dQ_takeNumber_7 rfl rfl ?_
    refine xg_icmp_ge (pc := 8) (tgt := 52) B dQ_takeNumber_8 (by decide) h (fun c8 h => ?_) (fun c8 h => ?_)
    · refine xg_sub (ls' := [(2, .int v2), (3, .int v3)]) [2, 3] rfl ?_
      exact wQ_takeNumber_52 hl B v2 v3 A h
    · refine xg_aload_n (pc := 11) (i := 0) (r := v0) B dQ_takeNumber_11 rfl rfl ?_
      obtain ⟨hq12, h⟩ := xj_rq_i h
      refine xg_ci (pc := 12) (av := [xj_rv v0]) (st := []) (cy := prog_6_method_14_code) (nLy := 1) (rety := (some .boolean)) (hsy := []) B dQ_takeNumber_12 (xj_go_v B dQ_takeNumber_12 vwQ_137 rfl hq12) (xj_vw_c vwQ_137) (xj_vw_i vwQ_137) (by decide) (by decide) (by decide) rfl (fun r9 h9 => cQ_isDigitNext hl _ _ r9 h9) h (fun x1 A2 eA2 h => ?_)
      refine xg_if_eq (pc := 15) (tgt := 52) B dQ_takeNumber_15 (by decide) h (fun c15 h => ?_) (fun c15 h => ?_)
      · refine xg_sub (ls' := [(2, .int v2), (3, .int v3)]) [2, 3] rfl ?_
        exact wQ_takeNumber_52 hl B v2 v3 A2 h
      · refine xg_bipush (pc := 18) (v := 10) B dQ_takeNumber_18 (by decide) ?_
        refine xg_iload_n (pc := 20) (i := 3) B dQ_takeNumber_20 rfl rfl ?_
        refine xg_imul (pc := 21) B dQ_takeNumber_21 ?_
        refine xg_aload_n (pc := 22) (i := 0) (r := v0) B dQ_takeNumber_22 rfl rfl ?_
        refine xg_getr (pc := 23) B dQ_takeNumber_23 flQ_9 h (fun x3 ex3 h => ?_)
        refine xg_aload_n (pc := 26) (i := 0) (r := v0) B dQ_takeNumber_26 rfl rfl ?_
        refine xg_geti (pc := 27) B dQ_takeNumber_27 flQ_19 h (fun x4 ex4 h => ?_)
        refine xg_caload (pc := 30) B dQ_takeNumber_30 h (fun x5 ex5 h => ?_)
        refine xg_iadd (pc := 31) B dQ_takeNumber_31 ?_
        refine xg_bipush (pc := 32) (v := 48) B dQ_takeNumber_32 (by decide) ?_
        refine xg_isub (pc := 34) B dQ_takeNumber_34 ?_
        refine xg_istore_n (pc := 35) (i := 3) (ls' := [(3, .int ((((10 : Int32) * v3) + x5) - (48 : Int32))), (0, xj_rv v0), (1, .int v1), (2, .int v2), (4, .int v4)]) B dQ_takeNumber_35 rfl (by decide) ⟨xj_nq (a := 0) (i := 3) (by decide), xj_nq (a := 1) (i := 3) (by decide), fun _ => rfl, xj_nq (a := 3) (i := 3) (by decide), xj_nq (a := 4) (i := 3) (by decide), trivial⟩ rfl ?_
        refine xg_aload_n (pc := 36) (i := 0) (r := v0) B dQ_takeNumber_36 rfl rfl ?_
        refine xg_dup (pc := 37) B dQ_takeNumber_37 (xj_rv_cat v0) ?_
        refine xg_geti (pc := 38) B dQ_takeNumber_38 flQ_19 h (fun x6 ex6 h => ?_)
        refine xg_iconst (pc := 41) (v := 1) B dQ_takeNumber_41 (by decide) ?_
        refine xg_iadd (pc := 42) B dQ_takeNumber_42 ?_
        refine xg_puti (pc := 43) B dQ_takeNumber_43 (fpQ_19 _) h (fun A7 eA7 h => ?_)
        refine xg_iinc (pc := 46) (i := 4) (v := (v4 + 1)) (ls' := [(4, .int (v4 + 1)), (3, .int ((((10 : Int32) * v3) + x5) - (48 : Int32))), (0, xj_rv v0), (1, .int v1), (2, .int v2)]) B dQ_takeNumber_46 rfl (xj_inc_1 _) (by decide) ⟨fun _ => rfl, xj_nq (a := 0) (i := 4) (by decide), xj_nq (a := 1) (i := 4) (by decide), xj_nq (a := 2) (i := 4) (by decide), xj_nq (a := 4) (i := 4) (by decide), trivial⟩ rfl ?_
        refine xg_goto (pc := 49) (tgt := 5) B dQ_takeNumber_49 (by decide) ?_
        refine xg_sub (ls' := [(0, xj_rv v0), (1, .int v1), (2, .int v2), (3, .int ((((10 : Int32) * v3) + x5) - (48 : Int32))), (4, .int (v4 + 1))]) [2, 3, 4, 1, 0] rfl ?_
        exact (wQ_takeNumber_5 hl B n) v0 v1 v2 ((((10 : Int32) * v3) + x5) - (48 : Int32)) (v4 + 1) A7 h
theorem wQ_takeNumber {l : Launch} (hl : l.stackTraces = false) {z : xj_F} (B : xj_B l yQ_takeNumber prog_6_method_13_code 5 (some .int) [] 2 z) (v0 : xj_Rf) (v1 : Int32) (v2 : Int32) (A : xj_H) (h : fQ_takeNumber v0 v1 v2 A = some (xf_r z)) : xj_W l z 0 [(0, xj_rv v0), (1, .int v1), (2, .int v2)] [] A := by
  unfold fQ_takeNumber at h
  refine xg_iconst (pc := 0) (v := 0) B dQ_takeNumber_0 (by decide) ?_
  refine xg_istore_n (pc := 1) (i := 3) (ls' := [(3, .int (0 : Int32)), (0, xj_rv v0), (1, .int v1), (2, .int v2)]) B dQ_takeNumber_1 rfl (by decide) ⟨xj_nq (a := 0) (i := 3) (by decide), xj_nq (a := 1) (i := 3) (by decide), fun _ => rfl, trivial⟩ rfl ?_
  refine xg_iconst (pc := 2) (v := 0) B dQ_takeNumber_2 (by decide) ?_
  refine xg_istore (pc := 3) (i := 4) (ls' := [(4, .int (0 : Int32)), (3, .int (0 : Int32)), (0, xj_rv v0), (1, .int v1), (2, .int v2)]) B dQ_takeNumber_3 (by decide) ⟨fun _ => rfl, xj_nq (a := 0) (i := 4) (by decide), xj_nq (a := 1) (i := 4) (by decide), xj_nq (a := 2) (i := 4) (by decide), trivial⟩ rfl ?_
  refine xg_sub (ls' := [(0, xj_rv v0), (1, .int v1), (2, .int v2), (3, .int (0 : Int32)), (4, .int (0 : Int32))]) [2, 3, 4, 1, 0] rfl ?_
  exact wQ_takeNumber_5 hl B xj_fu v0 v1 v2 (0 : Int32) (0 : Int32) A h
theorem cQ_takeNumber {l : Launch} (hl : l.stackTraces = false) (v0 : xj_Rf) (v1 : Int32) (v2 : Int32) (A : xj_H) (r : xj_R) (h : fQ_takeNumber v0 v1 v2 A = some r) : xj_M l yQ_takeNumber prog_6_method_13_code 5 (some .int) [] 2 [xj_rv v0, .int v1, .int v2] A r := by
  refine xj_M.of hl (by decide +kernel) (by simp [lg_sl, xj_ic, xj_lc, xj_rv_cat]) (fun z B hA hr => ?_)
  subst hr
  have hw := wQ_takeNumber hl B v0 v1 v2 A h
  simpa [lv_args, xj_ic, xj_lc, xj_rv_cat] using hw
/-! RecurrenceBook$RuleReader.readInterval()Z -/
def fQ_readInterval_29 (s0 : Int32) (A : xj_H) : Option xj_R :=
  xj_rz s0 A
def fQ_readInterval (v0 : xj_Rf) (A : xj_H) : Option xj_R :=
  (xj_gr A v0 5 3).bind fun x1 =>
  xj_bi (xj_rq A v0 5 (fQ_takeNumber v0 (2 : Int32) (99 : Int32) A)) fun x2 A3 =>
  (xj_pv A3 x1 4 1 (.int x2)).bind fun A4 =>
  (xj_gr A4 v0 5 3).bind fun x5 =>
  (xj_gi A4 x5 4 1).bind fun x6 =>
  if x6 = 0 then
    fQ_readInterval_29 (0 : Int32) A4
  else
    fQ_readInterval_29 (1 : Int32) A4
theorem wQ_readInterval_29 {l : Launch} (hl : l.stackTraces = false) {z : xj_F} (B : xj_B l yQ_readInterval prog_6_method_5_code 1 (some .boolean) [] 3 z) (s0 : Int32) (A : xj_H) (h : fQ_readInterval_29 s0 A = some (xf_r z)) : xj_W l z 29 [] [.int s0] A := by
  unfold fQ_readInterval_29 at h
  exact xg_zret B dQ_readInterval_29 h
theorem wQ_readInterval {l : Launch} (hl : l.stackTraces = false) {z : xj_F} (B : xj_B l yQ_readInterval prog_6_method_5_code 1 (some .boolean) [] 3 z) (v0 : xj_Rf) (A : xj_H) (h : fQ_readInterval v0 A = some (xf_r z)) : xj_W l z 0 [(0, xj_rv v0)] [] A := by
  unfold fQ_readInterval at h
  refine xg_aload_n (pc := 0) (i := 0) (r := v0) B dQ_readInterval_0 rfl rfl ?_
  refine xg_getr (pc := 1) B dQ_readInterval_1 flQ_25 h (fun x1 ex1 h => ?_)
  refine xg_aload_n (pc := 4) (i := 0) (r := v0) B dQ_readInterval_4 rfl rfl ?_
  refine xg_iconst (pc := 5) (v := 2) B dQ_readInterval_5 (by decide) ?_
  refine xg_bipush (pc := 6) (v := 99) B dQ_readInterval_6 (by decide) ?_
  obtain ⟨hq8, h⟩ := xj_rq_i h
  refine xg_ci (pc := 8) (av := [xj_rv v0, .int (2 : Int32), .int (99 : Int32)]) (st := [xj_rv x1]) (cy := prog_6_method_13_code) (nLy := 5) (rety := (some .int)) (hsy := []) B dQ_readInterval_8 (xj_go_v B dQ_readInterval_8 vwQ_120 rfl hq8) (xj_vw_c vwQ_120) (xj_vw_i vwQ_120) (by decide) (by decide) (by simp [xj_ic, xj_lc, xj_rv_cat]) rfl (fun r9 h9 => cQ_takeNumber hl _ _ _ _ r9 h9) h (fun x2 A3 eA3 h => ?_)
  refine xg_puti (pc := 11) B dQ_readInterval_11 (fpQ_63 _) h (fun A4 eA4 h => ?_)
  refine xg_aload_n (pc := 14) (i := 0) (r := v0) B dQ_readInterval_14 rfl rfl ?_
  refine xg_getr (pc := 15) B dQ_readInterval_15 flQ_25 h (fun x5 ex5 h => ?_)
  refine xg_geti (pc := 18) B dQ_readInterval_18 flQ_63 h (fun x6 ex6 h => ?_)
  refine xg_if_eq (pc := 21) (tgt := 28) B dQ_readInterval_21 (by decide) h (fun c21 h => ?_) (fun c21 h => ?_)
  · refine xg_iconst (pc := 28) (v := 0) B dQ_readInterval_28 (by decide) ?_
    refine xg_sub (ls' := []) [] rfl ?_
    exact wQ_readInterval_29 hl B (0 : Int32) A4 h
  · refine xg_iconst (pc := 24) (v := 1) B dQ_readInterval_24 (by decide) ?_
    refine xg_goto (pc := 25) (tgt := 29) B dQ_readInterval_25 (by decide) ?_
    refine xg_sub (ls' := []) [] rfl ?_
    exact wQ_readInterval_29 hl B (1 : Int32) A4 h
theorem cQ_readInterval {l : Launch} (hl : l.stackTraces = false) (v0 : xj_Rf) (A : xj_H) (r : xj_R) (h : fQ_readInterval v0 A = some r) : xj_M l yQ_readInterval prog_6_method_5_code 1 (some .boolean) [] 3 [xj_rv v0] A r := by
  refine xj_M.of hl (by decide +kernel) (by simp [lg_sl, xj_ic, xj_lc, xj_rv_cat]) (fun z B hA hr => ?_)
  subst hr
  have hw := wQ_readInterval hl B v0 A h
  simpa [lv_args, xj_ic, xj_lc, xj_rv_cat] using hw
/-! RecurrenceBook$RuleReader.readCount()Z -/
def fQ_readCount_30 (s0 : Int32) (A : xj_H) : Option xj_R :=
  xj_rz s0 A
def fQ_readCount (v0 : xj_Rf) (A : xj_H) : Option xj_R :=
  (xj_gr A v0 5 3).bind fun x1 =>
  xj_bi (xj_rq A v0 5 (fQ_takeNumber v0 (3 : Int32) (200 : Int32) A)) fun x2 A3 =>
  (xj_pv A3 x1 4 2 (.int x2)).bind fun A4 =>
  (xj_gr A4 v0 5 3).bind fun x5 =>
  (xj_gi A4 x5 4 2).bind fun x6 =>
  if x6 = 0 then
    fQ_readCount_30 (0 : Int32) A4
  else
    fQ_readCount_30 (1 : Int32) A4
theorem wQ_readCount_30 {l : Launch} (hl : l.stackTraces = false) {z : xj_F} (B : xj_B l yQ_readCount prog_6_method_6_code 1 (some .boolean) [] 3 z) (s0 : Int32) (A : xj_H) (h : fQ_readCount_30 s0 A = some (xf_r z)) : xj_W l z 30 [] [.int s0] A := by
  unfold fQ_readCount_30 at h
  exact xg_zret B dQ_readCount_30 h
theorem wQ_readCount {l : Launch} (hl : l.stackTraces = false) {z : xj_F} (B : xj_B l yQ_readCount prog_6_method_6_code 1 (some .boolean) [] 3 z) (v0 : xj_Rf) (A : xj_H) (h : fQ_readCount v0 A = some (xf_r z)) : xj_W l z 0 [(0, xj_rv v0)] [] A := by
  unfold fQ_readCount at h
  refine xg_aload_n (pc := 0) (i := 0) (r := v0) B dQ_readCount_0 rfl rfl ?_
  refine xg_getr (pc := 1) B dQ_readCount_1 flQ_25 h (fun x1 ex1 h => ?_)
  refine xg_aload_n (pc := 4) (i := 0) (r := v0) B dQ_readCount_4 rfl rfl ?_
  refine xg_iconst (pc := 5) (v := 3) B dQ_readCount_5 (by decide) ?_
  refine xg_sipush (pc := 6) (v := 200) B dQ_readCount_6 (by decide) ?_
  obtain ⟨hq9, h⟩ := xj_rq_i h
  refine xg_ci (pc := 9) (av := [xj_rv v0, .int (3 : Int32), .int (200 : Int32)]) (st := [xj_rv x1]) (cy := prog_6_method_13_code) (nLy := 5) (rety := (some .int)) (hsy := []) B dQ_readCount_9 (xj_go_v B dQ_readCount_9 vwQ_120 rfl hq9) (xj_vw_c vwQ_120) (xj_vw_i vwQ_120) (by decide) (by decide) (by simp [xj_ic, xj_lc, xj_rv_cat]) rfl (fun r9 h9 => cQ_takeNumber hl _ _ _ _ r9 h9) h (fun x2 A3 eA3 h => ?_)
  refine xg_puti (pc := 12) B dQ_readCount_12 (fpQ_38 _) h (fun A4 eA4 h => ?_)
  refine xg_aload_n (pc := 15) (i := 0) (r := v0) B dQ_readCount_15 rfl rfl ?_
  refine xg_getr (pc := 16) B dQ_readCount_16 flQ_25 h (fun x5 ex5 h => ?_)
  refine xg_geti (pc := 19) B dQ_readCount_19 flQ_38 h (fun x6 ex6 h => ?_)
  refine xg_if_eq (pc := 22) (tgt := 29) B dQ_readCount_22 (by decide) h (fun c22 h => ?_) (fun c22 h => ?_)
  · refine xg_iconst (pc := 29) (v := 0) B dQ_readCount_29 (by decide) ?_
    refine xg_sub (ls' := []) [] rfl ?_
    exact wQ_readCount_30 hl B (0 : Int32) A4 h
  · refine xg_iconst (pc := 25) (v := 1) B dQ_readCount_25 (by decide) ?_
    refine xg_goto (pc := 26) (tgt := 30) B dQ_readCount_26 (by decide) ?_
    refine xg_sub (ls' := []) [] rfl ?_
    exact wQ_readCount_30 hl B (1 : Int32) A4 h
theorem cQ_readCount {l : Launch} (hl : l.stackTraces = false) (v0 : xj_Rf) (A : xj_H) (r : xj_R) (h : fQ_readCount v0 A = some r) : xj_M l yQ_readCount prog_6_method_6_code 1 (some .boolean) [] 3 [xj_rv v0] A r := by
  refine xj_M.of hl (by decide +kernel) (by simp [lg_sl, xj_ic, xj_lc, xj_rv_cat]) (fun z B hA hr => ?_)
  subst hr
  have hw := wQ_readCount hl B v0 A h
  simpa [lv_args, xj_ic, xj_lc, xj_rv_cat] using hw
/-! RecurrenceBook$Dates.dayOf(III)I -/
def fD_dayOf_60 (A : xj_H) : Option xj_R :=
  some (.inl (some (.int (-1 : Int32))), A)
def fD_dayOf_21 (A : xj_H) : Option xj_R :=
  some (.inl (some (.int (-1 : Int32))), A)
def fD_dayOf (v0 : Int32) (v1 : Int32) (v2 : Int32) (A : xj_H) : Option xj_R :=
  if v0 < (2000 : Int32) then
    fD_dayOf_21  A
  else
    if (2100 : Int32) ≤ v0 then
      fD_dayOf_21  A
    else
      xj_bi (fB_isMonth v1 A) fun x1 A2 =>
      if ¬ x1 = 0 then
        xj_bi (fD_monthStart ((((12 : Int32) * (v0 - (2000 : Int32))) + v1) - (1 : Int32)) A2) fun x3 A4 =>
        if v2 < (1 : Int32) then
          fD_dayOf_60  A4
        else
          xj_bi (fD_monthStart (((((12 : Int32) * (v0 - (2000 : Int32))) + v1) - (1 : Int32)) + (1 : Int32)) A4) fun x5 A6 =>
          if v2 ≤ (x5 - x3) then
            some (.inl (some (.int ((x3 + v2) - (1 : Int32)))), A6)
          else
            fD_dayOf_60  A6
      else
        fD_dayOf_21  A2
theorem wD_dayOf_60 {l : Launch} (hl : l.stackTraces = false) {z : xj_F} (B : xj_B l yD_dayOf prog_2_method_6_code 5 (some .int) [] 3 z) (A : xj_H) (h : fD_dayOf_60  A = some (xf_r z)) : xj_W l z 60 [] [] A := by
  unfold fD_dayOf_60 at h
  refine xg_iconst (pc := 60) (v := -1) B dD_dayOf_60 (by decide) ?_
  exact xg_iret B dD_dayOf_61 h
theorem wD_dayOf_21 {l : Launch} (hl : l.stackTraces = false) {z : xj_F} (B : xj_B l yD_dayOf prog_2_method_6_code 5 (some .int) [] 3 z) (A : xj_H) (h : fD_dayOf_21  A = some (xf_r z)) : xj_W l z 21 [] [] A := by
  unfold fD_dayOf_21 at h
  refine xg_iconst (pc := 21) (v := -1) B dD_dayOf_21 (by decide) ?_
  exact xg_iret B dD_dayOf_22 h
theorem wD_dayOf {l : Launch} (hl : l.stackTraces = false) {z : xj_F} (B : xj_B l yD_dayOf prog_2_method_6_code 5 (some .int) [] 3 z) (v0 : Int32) (v1 : Int32) (v2 : Int32) (A : xj_H) (h : fD_dayOf v0 v1 v2 A = some (xf_r z)) : xj_W l z 0 [(0, .int v0), (1, .int v1), (2, .int v2)] [] A := by
  unfold fD_dayOf at h
  refine xg_iload_n (pc := 0) (i := 0) B dD_dayOf_0 rfl rfl ?_
  refine xg_sipush (pc := 1) (v := 2000) B dD_dayOf_1 (by decide) ?_
  refine xg_icmp_lt (pc := 4) (tgt := 21) B dD_dayOf_4 (by decide) h (fun c4 h => ?_) (fun c4 h => ?_)
  · refine xg_sub (ls' := []) [] rfl ?_
    exact wD_dayOf_21 hl B  A h
  · refine xg_iload_n (pc := 7) (i := 0) B dD_dayOf_7 rfl rfl ?_
    refine xg_sipush (pc := 8) (v := 2100) B dD_dayOf_8 (by decide) ?_
    refine xg_icmp_ge (pc := 11) (tgt := 21) B dD_dayOf_11 (by decide) h (fun c11 h => ?_) (fun c11 h => ?_)
    · refine xg_sub (ls' := []) [] rfl ?_
      exact wD_dayOf_21 hl B  A h
    · refine xg_iload_n (pc := 14) (i := 1) B dD_dayOf_14 rfl rfl ?_
      refine xg_ci (pc := 15) (av := [.int v1]) (st := []) (cy := prog_1_method_19_code) (nLy := 1) (rety := (some .boolean)) (hsy := []) B dD_dayOf_15 (xj_go_s B dD_dayOf_15 swD_28 rfl) swD_28.2.2.1 swD_28.2.2.2.1 (by decide) (by decide) (by decide) rfl (fun r9 h9 => cB_isMonth hl _ _ r9 h9) h (fun x1 A2 eA2 h => ?_)
      refine xg_if_ne (pc := 18) (tgt := 23) B dD_dayOf_18 (by decide) h (fun c18 h => ?_) (fun c18 h => ?_)
      · refine xg_bipush (pc := 23) (v := 12) B dD_dayOf_23 (by decide) ?_
        refine xg_iload_n (pc := 25) (i := 0) B dD_dayOf_25 rfl rfl ?_
        refine xg_sipush (pc := 26) (v := 2000) B dD_dayOf_26 (by decide) ?_
        refine xg_isub (pc := 29) B dD_dayOf_29 ?_
        refine xg_imul (pc := 30) B dD_dayOf_30 ?_
        refine xg_iload_n (pc := 31) (i := 1) B dD_dayOf_31 rfl rfl ?_
        refine xg_iadd (pc := 32) B dD_dayOf_32 ?_
        refine xg_iconst (pc := 33) (v := 1) B dD_dayOf_33 (by decide) ?_
        refine xg_isub (pc := 34) B dD_dayOf_34 ?_
        refine xg_istore_n (pc := 35) (i := 3) (ls' := [(3, .int ((((12 : Int32) * (v0 - (2000 : Int32))) + v1) - (1 : Int32))), (0, .int v0), (1, .int v1), (2, .int v2)]) B dD_dayOf_35 rfl (by decide) ⟨xj_nq (a := 0) (i := 3) (by decide), xj_nq (a := 1) (i := 3) (by decide), fun _ => rfl, trivial⟩ rfl ?_
        refine xg_iload_n (pc := 36) (i := 3) B dD_dayOf_36 rfl rfl ?_
        refine xg_ci (pc := 37) (av := [.int ((((12 : Int32) * (v0 - (2000 : Int32))) + v1) - (1 : Int32))]) (st := []) (cy := prog_2_method_4_code) (nLy := 4) (rety := (some .int)) (hsy := []) B dD_dayOf_37 (xj_go_s B dD_dayOf_37 swD_25 rfl) swD_25.2.2.1 swD_25.2.2.2.1 (by decide) (by decide) (by decide) rfl (fun r9 h9 => cD_monthStart hl _ _ r9 h9) h (fun x3 A4 eA4 h => ?_)
        refine xg_istore (pc := 40) (i := 4) (ls' := [(4, .int x3), (3, .int ((((12 : Int32) * (v0 - (2000 : Int32))) + v1) - (1 : Int32))), (0, .int v0), (1, .int v1), (2, .int v2)]) B dD_dayOf_40 (by decide) ⟨fun _ => rfl, xj_nq (a := 0) (i := 4) (by decide), xj_nq (a := 1) (i := 4) (by decide), xj_nq (a := 2) (i := 4) (by decide), trivial⟩ rfl ?_
        refine xg_iload_n (pc := 42) (i := 2) B dD_dayOf_42 rfl rfl ?_
        refine xg_iconst (pc := 43) (v := 1) B dD_dayOf_43 (by decide) ?_
        refine xg_icmp_lt (pc := 44) (tgt := 60) B dD_dayOf_44 (by decide) h (fun c44 h => ?_) (fun c44 h => ?_)
        · refine xg_sub (ls' := []) [] rfl ?_
          exact wD_dayOf_60 hl B  A4 h
        · refine xg_iload_n (pc := 47) (i := 2) B dD_dayOf_47 rfl rfl ?_
          refine xg_iload_n (pc := 48) (i := 3) B dD_dayOf_48 rfl rfl ?_
          refine xg_iconst (pc := 49) (v := 1) B dD_dayOf_49 (by decide) ?_
          refine xg_iadd (pc := 50) B dD_dayOf_50 ?_
          refine xg_ci (pc := 51) (av := [.int (((((12 : Int32) * (v0 - (2000 : Int32))) + v1) - (1 : Int32)) + (1 : Int32))]) (st := [.int v2]) (cy := prog_2_method_4_code) (nLy := 4) (rety := (some .int)) (hsy := []) B dD_dayOf_51 (xj_go_s B dD_dayOf_51 swD_25 rfl) swD_25.2.2.1 swD_25.2.2.2.1 (by decide) (by decide) (by simp [xj_ic, xj_lc, xj_rv_cat]) rfl (fun r9 h9 => cD_monthStart hl _ _ r9 h9) h (fun x5 A6 eA6 h => ?_)
          refine xg_iload (pc := 54) (i := 4) B dD_dayOf_54 rfl ?_
          refine xg_isub (pc := 56) B dD_dayOf_56 ?_
          refine xg_icmp_le (pc := 57) (tgt := 62) B dD_dayOf_57 (by decide) h (fun c57 h => ?_) (fun c57 h => ?_)
          · refine xg_iload (pc := 62) (i := 4) B dD_dayOf_62 rfl ?_
            refine xg_iload_n (pc := 64) (i := 2) B dD_dayOf_64 rfl rfl ?_
            refine xg_iadd (pc := 65) B dD_dayOf_65 ?_
            refine xg_iconst (pc := 66) (v := 1) B dD_dayOf_66 (by decide) ?_
            refine xg_isub (pc := 67) B dD_dayOf_67 ?_
            exact xg_iret B dD_dayOf_68 h
          · refine xg_sub (ls' := []) [] rfl ?_
            exact wD_dayOf_60 hl B  A6 h
      · refine xg_sub (ls' := []) [] rfl ?_
        exact wD_dayOf_21 hl B  A2 h
theorem cD_dayOf {l : Launch} (hl : l.stackTraces = false) (v0 : Int32) (v1 : Int32) (v2 : Int32) (A : xj_H) (r : xj_R) (h : fD_dayOf v0 v1 v2 A = some r) : xj_M l yD_dayOf prog_2_method_6_code 5 (some .int) [] 3 [.int v0, .int v1, .int v2] A r := by
  refine xj_M.of hl (by decide +kernel) (by simp [lg_sl, xj_ic, xj_lc, xj_rv_cat]) (fun z B hA hr => ?_)
  subst hr
  have hw := wD_dayOf hl B v0 v1 v2 A h
  simpa [lv_args, xj_ic, xj_lc, xj_rv_cat] using hw
/-! RecurrenceBook$RuleReader.readUntil()Z -/
def fQ_readUntil_72 (s0 : Int32) (A : xj_H) : Option xj_R :=
  xj_rz s0 A
def fQ_readUntil (v0 : xj_Rf) (A : xj_H) : Option xj_R :=
  (xj_gi A v0 5 2).bind fun x1 =>
  xj_bi (xj_rq A v0 5 (fQ_takeNumber v0 (8 : Int32) (99999999 : Int32) A)) fun x2 A3 =>
  (xj_gi A3 v0 5 2).bind fun x4 =>
  if (x4 - x1) = (8 : Int32) then
    xj_bi (fD_dayOf (x2 / (10000 : Int32)) ((x2 / (100 : Int32)) % (100 : Int32)) (x2 % (100 : Int32)) A3) fun x5 A6 =>
    (xj_gr A6 v0 5 3).bind fun x7 =>
    (xj_pz A6 x7 4 3 (1 : Int32)).bind fun A8 =>
    (xj_gr A8 v0 5 3).bind fun x9 =>
    (xj_pv A8 x9 4 4 (.int x5)).bind fun A10 =>
    if x5 < 0 then
      fQ_readUntil_72 (0 : Int32) A10
    else
      fQ_readUntil_72 (1 : Int32) A10
  else
    xj_rz (0 : Int32) A3
theorem wQ_readUntil_72 {l : Launch} (hl : l.stackTraces = false) {z : xj_F} (B : xj_B l yQ_readUntil prog_6_method_7_code 4 (some .boolean) [] 4 z) (s0 : Int32) (A : xj_H) (h : fQ_readUntil_72 s0 A = some (xf_r z)) : xj_W l z 72 [] [.int s0] A := by
  unfold fQ_readUntil_72 at h
  exact xg_zret B dQ_readUntil_72 h
theorem wQ_readUntil {l : Launch} (hl : l.stackTraces = false) {z : xj_F} (B : xj_B l yQ_readUntil prog_6_method_7_code 4 (some .boolean) [] 4 z) (v0 : xj_Rf) (A : xj_H) (h : fQ_readUntil v0 A = some (xf_r z)) : xj_W l z 0 [(0, xj_rv v0)] [] A := by
  unfold fQ_readUntil at h
  refine xg_aload_n (pc := 0) (i := 0) (r := v0) B dQ_readUntil_0 rfl rfl ?_
  refine xg_geti (pc := 1) B dQ_readUntil_1 flQ_19 h (fun x1 ex1 h => ?_)
  refine xg_istore_n (pc := 4) (i := 1) (ls' := [(1, .int x1), (0, xj_rv v0)]) B dQ_readUntil_4 rfl (by decide) ⟨fun _ => xj_rv_cat v0, trivial⟩ rfl ?_
  refine xg_aload_n (pc := 5) (i := 0) (r := v0) B dQ_readUntil_5 rfl rfl ?_
  refine xg_bipush (pc := 6) (v := 8) B dQ_readUntil_6 (by decide) ?_
  refine xg_ldc (pc := 8) (v := 99999999) B dQ_readUntil_8 kQ_124 ?_
  obtain ⟨hq10, h⟩ := xj_rq_i h
  refine xg_ci (pc := 10) (av := [xj_rv v0, .int (8 : Int32), .int (99999999 : Int32)]) (st := []) (cy := prog_6_method_13_code) (nLy := 5) (rety := (some .int)) (hsy := []) B dQ_readUntil_10 (xj_go_v B dQ_readUntil_10 vwQ_120 rfl hq10) (xj_vw_c vwQ_120) (xj_vw_i vwQ_120) (by decide) (by decide) (by decide) rfl (fun r9 h9 => cQ_takeNumber hl _ _ _ _ r9 h9) h (fun x2 A3 eA3 h => ?_)
  refine xg_istore_n (pc := 13) (i := 2) (ls' := [(2, .int x2), (1, .int x1), (0, xj_rv v0)]) B dQ_readUntil_13 rfl (by decide) ⟨fun _ => rfl, xj_nq (a := 0) (i := 2) (by decide), trivial⟩ rfl ?_
  refine xg_aload_n (pc := 14) (i := 0) (r := v0) B dQ_readUntil_14 rfl rfl ?_
  refine xg_geti (pc := 15) B dQ_readUntil_15 flQ_19 h (fun x4 ex4 h => ?_)
  refine xg_iload_n (pc := 18) (i := 1) B dQ_readUntil_18 rfl rfl ?_
  refine xg_isub (pc := 19) B dQ_readUntil_19 ?_
  refine xg_bipush (pc := 20) (v := 8) B dQ_readUntil_20 (by decide) ?_
  refine xg_icmp_eq (pc := 22) (tgt := 27) B dQ_readUntil_22 (by decide) h (fun c22 h => ?_) (fun c22 h => ?_)
  · refine xg_iload_n (pc := 27) (i := 2) B dQ_readUntil_27 rfl rfl ?_
    refine xg_sipush (pc := 28) (v := 10000) B dQ_readUntil_28 (by decide) ?_
    refine xg_idiv (pc := 31) B dQ_readUntil_31 (by decide) ?_
    refine xg_iload_n (pc := 32) (i := 2) B dQ_readUntil_32 rfl rfl ?_
    refine xg_bipush (pc := 33) (v := 100) B dQ_readUntil_33 (by decide) ?_
    refine xg_idiv (pc := 35) B dQ_readUntil_35 (by decide) ?_
    refine xg_bipush (pc := 36) (v := 100) B dQ_readUntil_36 (by decide) ?_
    refine xg_irem (pc := 38) B dQ_readUntil_38 (by decide) ?_
    refine xg_iload_n (pc := 39) (i := 2) B dQ_readUntil_39 rfl rfl ?_
    refine xg_bipush (pc := 40) (v := 100) B dQ_readUntil_40 (by decide) ?_
    refine xg_irem (pc := 42) B dQ_readUntil_42 (by decide) ?_
    refine xg_ci (pc := 43) (av := [.int (x2 / (10000 : Int32)), .int ((x2 / (100 : Int32)) % (100 : Int32)), .int (x2 % (100 : Int32))]) (st := []) (cy := prog_2_method_6_code) (nLy := 5) (rety := (some .int)) (hsy := []) B dQ_readUntil_43 (xj_go_s B dQ_readUntil_43 swQ_125 rfl) swQ_125.2.2.1 swQ_125.2.2.2.1 (by decide) (by decide) (by decide) rfl (fun r9 h9 => cD_dayOf hl _ _ _ _ r9 h9) h (fun x5 A6 eA6 h => ?_)
    refine xg_istore_n (pc := 46) (i := 3) (ls' := [(3, .int x5), (2, .int x2), (1, .int x1), (0, xj_rv v0)]) B dQ_readUntil_46 rfl (by decide) ⟨fun _ => rfl, xj_nq (a := 1) (i := 3) (by decide), xj_nq (a := 0) (i := 3) (by decide), trivial⟩ rfl ?_
    refine xg_aload_n (pc := 47) (i := 0) (r := v0) B dQ_readUntil_47 rfl rfl ?_
    refine xg_getr (pc := 48) B dQ_readUntil_48 flQ_25 h (fun x7 ex7 h => ?_)
    refine xg_iconst (pc := 51) (v := 1) B dQ_readUntil_51 (by decide) ?_
    refine xg_putz (pc := 52) B dQ_readUntil_52 (fpQ_76 _) h (fun A8 eA8 h => ?_)
    refine xg_aload_n (pc := 55) (i := 0) (r := v0) B dQ_readUntil_55 rfl rfl ?_
    refine xg_getr (pc := 56) B dQ_readUntil_56 flQ_25 h (fun x9 ex9 h => ?_)
    refine xg_iload_n (pc := 59) (i := 3) B dQ_readUntil_59 rfl rfl ?_
    refine xg_puti (pc := 60) B dQ_readUntil_60 (fpQ_131 _) h (fun A10 eA10 h => ?_)
    refine xg_iload_n (pc := 63) (i := 3) B dQ_readUntil_63 rfl rfl ?_
    refine xg_if_lt (pc := 64) (tgt := 71) B dQ_readUntil_64 (by decide) h (fun c64 h => ?_) (fun c64 h => ?_)
    · refine xg_iconst (pc := 71) (v := 0) B dQ_readUntil_71 (by decide) ?_
      refine xg_sub (ls' := []) [] rfl ?_
      exact wQ_readUntil_72 hl B (0 : Int32) A10 h
    · refine xg_iconst (pc := 67) (v := 1) B dQ_readUntil_67 (by decide) ?_
      refine xg_goto (pc := 68) (tgt := 72) B dQ_readUntil_68 (by decide) ?_
      refine xg_sub (ls' := []) [] rfl ?_
      exact wQ_readUntil_72 hl B (1 : Int32) A10 h
  · refine xg_iconst (pc := 25) (v := 0) B dQ_readUntil_25 (by decide) ?_
    exact xg_zret B dQ_readUntil_26 h
theorem cQ_readUntil {l : Launch} (hl : l.stackTraces = false) (v0 : xj_Rf) (A : xj_H) (r : xj_R) (h : fQ_readUntil v0 A = some r) : xj_M l yQ_readUntil prog_6_method_7_code 4 (some .boolean) [] 4 [xj_rv v0] A r := by
  refine xj_M.of hl (by decide +kernel) (by simp [lg_sl, xj_ic, xj_lc, xj_rv_cat]) (fun z B hA hr => ?_)
  subst hr
  have hw := wQ_readUntil hl B v0 A h
  simpa [lv_args, xj_ic, xj_lc, xj_rv_cat] using hw
/-! RecurrenceBook$Rule.hasWeekdays()Z -/
def fR_hasWeekdays_25 (s0 : Int32) (A : xj_H) : Option xj_R :=
  xj_rz s0 A
def fR_hasWeekdays (v0 : xj_Rf) (A : xj_H) : Option xj_R :=
  (xj_gi A v0 4 8).bind fun x1 =>
  (xj_gl A v0 4 9).bind fun x2 =>
  (xj_gl A v0 4 10).bind fun x3 =>
  if (lg_cmp (((Int32.toInt64 x1) ||| x2) ||| x3) (0 : Int64)) = 0 then
    fR_hasWeekdays_25 (0 : Int32) A
  else
    fR_hasWeekdays_25 (1 : Int32) A
theorem wR_hasWeekdays_25 {l : Launch} (hl : l.stackTraces = false) {z : xj_F} (B : xj_B l yR_hasWeekdays prog_5_method_6_code 1 (some .boolean) [] 1 z) (s0 : Int32) (A : xj_H) (h : fR_hasWeekdays_25 s0 A = some (xf_r z)) : xj_W l z 25 [] [.int s0] A := by
  unfold fR_hasWeekdays_25 at h
  exact xg_zret B dR_hasWeekdays_25 h
theorem wR_hasWeekdays {l : Launch} (hl : l.stackTraces = false) {z : xj_F} (B : xj_B l yR_hasWeekdays prog_5_method_6_code 1 (some .boolean) [] 1 z) (v0 : xj_Rf) (A : xj_H) (h : fR_hasWeekdays v0 A = some (xf_r z)) : xj_W l z 0 [(0, xj_rv v0)] [] A := by
  unfold fR_hasWeekdays at h
  refine xg_aload_n (pc := 0) (i := 0) (r := v0) B dR_hasWeekdays_0 rfl rfl ?_
  refine xg_geti (pc := 1) B dR_hasWeekdays_1 flR_26 h (fun x1 ex1 h => ?_)
  refine xg_i2l (pc := 4) B dR_hasWeekdays_4 ?_
  refine xg_aload_n (pc := 5) (i := 0) (r := v0) B dR_hasWeekdays_5 rfl rfl ?_
  refine xg_getl (pc := 6) B dR_hasWeekdays_6 flR_37 h (fun x2 ex2 h => ?_)
  refine xg_lor (pc := 9) B dR_hasWeekdays_9 ?_
  refine xg_aload_n (pc := 10) (i := 0) (r := v0) B dR_hasWeekdays_10 rfl rfl ?_
  refine xg_getl (pc := 11) B dR_hasWeekdays_11 flR_29 h (fun x3 ex3 h => ?_)
  refine xg_lor (pc := 14) B dR_hasWeekdays_14 ?_
  refine xg_lconst (pc := 15) (v := 0) B dR_hasWeekdays_15 (by decide) ?_
  refine xg_lcmp (pc := 16) B dR_hasWeekdays_16 ?_
  refine xg_if_eq (pc := 17) (tgt := 24) B dR_hasWeekdays_17 (by decide) h (fun c17 h => ?_) (fun c17 h => ?_)
  · refine xg_iconst (pc := 24) (v := 0) B dR_hasWeekdays_24 (by decide) ?_
    refine xg_sub (ls' := []) [] rfl ?_
    exact wR_hasWeekdays_25 hl B (0 : Int32) A h
  · refine xg_iconst (pc := 20) (v := 1) B dR_hasWeekdays_20 (by decide) ?_
    refine xg_goto (pc := 21) (tgt := 25) B dR_hasWeekdays_21 (by decide) ?_
    refine xg_sub (ls' := []) [] rfl ?_
    exact wR_hasWeekdays_25 hl B (1 : Int32) A h
theorem cR_hasWeekdays {l : Launch} (hl : l.stackTraces = false) (v0 : xj_Rf) (A : xj_H) (r : xj_R) (h : fR_hasWeekdays v0 A = some r) : xj_M l yR_hasWeekdays prog_5_method_6_code 1 (some .boolean) [] 1 [xj_rv v0] A r := by
  refine xj_M.of hl (by decide +kernel) (by simp [lg_sl, xj_ic, xj_lc, xj_rv_cat]) (fun z B hA hr => ?_)
  subst hr
  have hw := wR_hasWeekdays hl B v0 A h
  simpa [lv_args, xj_ic, xj_lc, xj_rv_cat] using hw

/-! RecurrenceBookLaw.times(LRecurrenceBook;I[J)I -/
def fL_times (v0 : xj_Rf) (v1 : Int32) (v2 : xj_Rf) (A : xj_H) : Option xj_R :=
  xj_ki (xj_rq A v0 0 (fB_times v0 v1 A)) (fun x3 A4 =>
    (xj_las A4 v2 (0 : Int32) (Int32.toInt64 x3)).bind fun A5 =>
    some (.inl (some (.int (0 : Int32))), A5))
  (fun x7 A6 =>
    if x7 = "java/util/NoSuchElementException" then
      some (.inl (some (.int (1 : Int32))), A6)
    else none)
theorem wL_times {l : Launch} (hl : l.stackTraces = false) {z : xj_F} (B : xj_B l yL_times method_6_code 4 (some .int) [(0, 9, 12, 25)] 8 z) (v0 : xj_Rf) (v1 : Int32) (v2 : xj_Rf) (A : xj_H) (h : fL_times v0 v1 v2 A = some (xf_r z)) : xj_W l z 0 [(0, xj_rv v0), (1, .int v1), (2, xj_rv v2)] [] A := by
  unfold fL_times at h
  refine xg_aload_n (pc := 0) (i := 2) (r := v2) B dL_times_0 rfl rfl ?_
  refine xg_iconst (pc := 1) (v := 0) B dL_times_1 (by decide) ?_
  refine xg_aload_n (pc := 2) (i := 0) (r := v0) B dL_times_2 rfl rfl ?_
  refine xg_iload_n (pc := 3) (i := 1) B dL_times_3 rfl rfl ?_
  obtain ⟨hq4, h⟩ := xj_rq_ki h
  refine xg_ki (pc := 4) (av := [xj_rv v0, .int v1]) (st := [.int (0 : Int32), xj_rv v2]) (cy := prog_1_method_6_code) (nLy := 2) (rety := (some .int)) (hsy := []) B dL_times_4 (xj_go_v B dL_times_4 vwL_27 rfl hq4) (xj_vw_c vwL_27) (xj_vw_i vwL_27) (by decide) (by decide) (by simp [xj_ic, xj_lc, xj_rv_cat]) (fun r9 h9 => cB_times hl _ _ _ r9 h9) h (fun x3 A4 eA4 h => ?_) (fun x7 A6 eA6 h => ?_)
  · refine xg_i2l (pc := 7) B dL_times_7 ?_
    refine xg_lastore (pc := 8) B dL_times_8 h (fun A5 eA5 h => ?_)
    refine xg_goto (pc := 9) (tgt := 15) B dL_times_9 (by decide) ?_
    refine xg_iconst (pc := 15) (v := 0) B dL_times_15 (by decide) ?_
    exact xg_iret B dL_times_16 h
  · obtain ⟨hx4, h⟩ := xj_ifn h
    subst hx4
    refine xj_X.catch1 (name := "java/util/NoSuchElementException") (i := 3) (ls' := [(0, xj_rv v0), (1, .int v1), (2, xj_rv v2)]) B rfl ⟨by decide, by decide⟩ (by decide) (xm_t 652 (by decide +kernel) rfl) (xm_t 663 (by decide +kernel) rfl) dL_times_12 (Or.inl ⟨_, rfl, rfl, rfl⟩) (by decide) ⟨xj_nq (a := 0) (i := 3) (by decide), xj_nq (a := 1) (i := 3) (by decide), fun _ => xj_rv_cat v2, trivial⟩ rfl ?_
    refine xg_iconst (pc := 13) (v := 1) B dL_times_13 (by decide) ?_
    exact xg_iret B dL_times_14 h
theorem cL_times {l : Launch} (hl : l.stackTraces = false) (v0 : xj_Rf) (v1 : Int32) (v2 : xj_Rf) (A : xj_H) (r : xj_R) (h : fL_times v0 v1 v2 A = some r) : xj_M l yL_times method_6_code 4 (some .int) [(0, 9, 12, 25)] 8 [xj_rv v0, .int v1, xj_rv v2] A r := by
  refine xj_M.of hl (by decide +kernel) (by simp [lg_sl, xj_ic, xj_lc, xj_rv_cat]) (fun z B hA hr => ?_)
  subst hr
  have hw := wL_times hl B v0 v1 v2 A h
  simpa [lv_args, xj_ic, xj_lc, xj_rv_cat] using hw
/-! RecurrenceBookLaw.day(LRecurrenceBook;II[J)I -/
def fL_day (v0 : xj_Rf) (v1 : Int32) (v2 : Int32) (v3 : xj_Rf) (A : xj_H) : Option xj_R :=
  xj_ki (xj_rq A v0 0 (fB_day v0 v1 v2 A)) (fun x3 A4 =>
    (xj_las A4 v3 (0 : Int32) (Int32.toInt64 x3)).bind fun A5 =>
    some (.inl (some (.int (0 : Int32))), A5))
  (fun x7 A6 =>
    if x7 = "java/util/NoSuchElementException" then
      some (.inl (some (.int (1 : Int32))), A6)
    else none)
theorem wL_day {l : Launch} (hl : l.stackTraces = false) {z : xj_F} (B : xj_B l yL_day method_7_code 5 (some .int) [(0, 10, 13, 25)] 9 z) (v0 : xj_Rf) (v1 : Int32) (v2 : Int32) (v3 : xj_Rf) (A : xj_H) (h : fL_day v0 v1 v2 v3 A = some (xf_r z)) : xj_W l z 0 [(0, xj_rv v0), (1, .int v1), (2, .int v2), (3, xj_rv v3)] [] A := by
  unfold fL_day at h
  refine xg_aload_n (pc := 0) (i := 3) (r := v3) B dL_day_0 rfl rfl ?_
  refine xg_iconst (pc := 1) (v := 0) B dL_day_1 (by decide) ?_
  refine xg_aload_n (pc := 2) (i := 0) (r := v0) B dL_day_2 rfl rfl ?_
  refine xg_iload_n (pc := 3) (i := 1) B dL_day_3 rfl rfl ?_
  refine xg_iload_n (pc := 4) (i := 2) B dL_day_4 rfl rfl ?_
  obtain ⟨hq5, h⟩ := xj_rq_ki h
  refine xg_ki (pc := 5) (av := [xj_rv v0, .int v1, .int v2]) (st := [.int (0 : Int32), xj_rv v3]) (cy := prog_1_method_7_code) (nLy := 3) (rety := (some .int)) (hsy := []) B dL_day_5 (xj_go_v B dL_day_5 vwL_31 rfl hq5) (xj_vw_c vwL_31) (xj_vw_i vwL_31) (by decide) (by decide) (by simp [xj_ic, xj_lc, xj_rv_cat]) (fun r9 h9 => cB_day hl _ _ _ _ r9 h9) h (fun x3 A4 eA4 h => ?_) (fun x7 A6 eA6 h => ?_)
  · refine xg_i2l (pc := 8) B dL_day_8 ?_
    refine xg_lastore (pc := 9) B dL_day_9 h (fun A5 eA5 h => ?_)
    refine xg_goto (pc := 10) (tgt := 17) B dL_day_10 (by decide) ?_
    refine xg_iconst (pc := 17) (v := 0) B dL_day_17 (by decide) ?_
    exact xg_iret B dL_day_18 h
  · obtain ⟨hx5, h⟩ := xj_ifn h
    subst hx5
    refine xj_X.catch1 (name := "java/util/NoSuchElementException") (i := 4) (ls' := [(0, xj_rv v0), (1, .int v1), (2, .int v2), (3, xj_rv v3)]) B rfl ⟨by decide, by decide⟩ (by decide) (xm_t 652 (by decide +kernel) rfl) (xm_t 663 (by decide +kernel) rfl) dL_day_13 (Or.inr ⟨rfl, rfl⟩) (by decide) ⟨xj_nq (a := 0) (i := 4) (by decide), xj_nq (a := 1) (i := 4) (by decide), xj_nq (a := 2) (i := 4) (by decide), fun _ => xj_rv_cat v3, trivial⟩ rfl ?_
    refine xg_iconst (pc := 15) (v := 1) B dL_day_15 (by decide) ?_
    exact xg_iret B dL_day_16 h
theorem cL_day {l : Launch} (hl : l.stackTraces = false) (v0 : xj_Rf) (v1 : Int32) (v2 : Int32) (v3 : xj_Rf) (A : xj_H) (r : xj_R) (h : fL_day v0 v1 v2 v3 A = some r) : xj_M l yL_day method_7_code 5 (some .int) [(0, 10, 13, 25)] 9 [xj_rv v0, .int v1, .int v2, xj_rv v3] A r := by
  refine xj_M.of hl (by decide +kernel) (by simp [lg_sl, xj_ic, xj_lc, xj_rv_cat]) (fun z B hA hr => ?_)
  subst hr
  have hw := wL_day hl B v0 v1 v2 v3 A h
  simpa [lv_args, xj_ic, xj_lc, xj_rv_cat] using hw
/-! RecurrenceBookLaw.moment(LRecurrenceBook;II[J)I -/
def fL_moment (v0 : xj_Rf) (v1 : Int32) (v2 : Int32) (v3 : xj_Rf) (A : xj_H) : Option xj_R :=
  xj_ki (xj_rq A v0 0 (fB_moment v0 v1 v2 A)) (fun x3 A4 =>
    (xj_las A4 v3 (0 : Int32) (Int32.toInt64 x3)).bind fun A5 =>
    some (.inl (some (.int (0 : Int32))), A5))
  (fun x7 A6 =>
    if x7 = "java/util/NoSuchElementException" then
      some (.inl (some (.int (1 : Int32))), A6)
    else none)
theorem wL_moment {l : Launch} (hl : l.stackTraces = false) {z : xj_F} (B : xj_B l yL_moment method_8_code 5 (some .int) [(0, 10, 13, 25)] 9 z) (v0 : xj_Rf) (v1 : Int32) (v2 : Int32) (v3 : xj_Rf) (A : xj_H) (h : fL_moment v0 v1 v2 v3 A = some (xf_r z)) : xj_W l z 0 [(0, xj_rv v0), (1, .int v1), (2, .int v2), (3, xj_rv v3)] [] A := by
  unfold fL_moment at h
  refine xg_aload_n (pc := 0) (i := 3) (r := v3) B dL_moment_0 rfl rfl ?_
  refine xg_iconst (pc := 1) (v := 0) B dL_moment_1 (by decide) ?_
  refine xg_aload_n (pc := 2) (i := 0) (r := v0) B dL_moment_2 rfl rfl ?_
  refine xg_iload_n (pc := 3) (i := 1) B dL_moment_3 rfl rfl ?_
  refine xg_iload_n (pc := 4) (i := 2) B dL_moment_4 rfl rfl ?_
  obtain ⟨hq5, h⟩ := xj_rq_ki h
  refine xg_ki (pc := 5) (av := [xj_rv v0, .int v1, .int v2]) (st := [.int (0 : Int32), xj_rv v3]) (cy := prog_1_method_8_code) (nLy := 4) (rety := (some .int)) (hsy := []) B dL_moment_5 (xj_go_v B dL_moment_5 vwL_35 rfl hq5) (xj_vw_c vwL_35) (xj_vw_i vwL_35) (by decide) (by decide) (by simp [xj_ic, xj_lc, xj_rv_cat]) (fun r9 h9 => cB_moment hl _ _ _ _ r9 h9) h (fun x3 A4 eA4 h => ?_) (fun x7 A6 eA6 h => ?_)
  · refine xg_i2l (pc := 8) B dL_moment_8 ?_
    refine xg_lastore (pc := 9) B dL_moment_9 h (fun A5 eA5 h => ?_)
    refine xg_goto (pc := 10) (tgt := 17) B dL_moment_10 (by decide) ?_
    refine xg_iconst (pc := 17) (v := 0) B dL_moment_17 (by decide) ?_
    exact xg_iret B dL_moment_18 h
  · obtain ⟨hx5, h⟩ := xj_ifn h
    subst hx5
    refine xj_X.catch1 (name := "java/util/NoSuchElementException") (i := 4) (ls' := [(0, xj_rv v0), (1, .int v1), (2, .int v2), (3, xj_rv v3)]) B rfl ⟨by decide, by decide⟩ (by decide) (xm_t 652 (by decide +kernel) rfl) (xm_t 663 (by decide +kernel) rfl) dL_moment_13 (Or.inr ⟨rfl, rfl⟩) (by decide) ⟨xj_nq (a := 0) (i := 4) (by decide), xj_nq (a := 1) (i := 4) (by decide), xj_nq (a := 2) (i := 4) (by decide), fun _ => xj_rv_cat v3, trivial⟩ rfl ?_
    refine xg_iconst (pc := 15) (v := 1) B dL_moment_15 (by decide) ?_
    exact xg_iret B dL_moment_16 h
theorem cL_moment {l : Launch} (hl : l.stackTraces = false) (v0 : xj_Rf) (v1 : Int32) (v2 : Int32) (v3 : xj_Rf) (A : xj_H) (r : xj_R) (h : fL_moment v0 v1 v2 v3 A = some r) : xj_M l yL_moment method_8_code 5 (some .int) [(0, 10, 13, 25)] 9 [xj_rv v0, .int v1, .int v2, xj_rv v3] A r := by
  refine xj_M.of hl (by decide +kernel) (by simp [lg_sl, xj_ic, xj_lc, xj_rv_cat]) (fun z B hA hr => ?_)
  subst hr
  have hw := wL_moment hl B v0 v1 v2 v3 A h
  simpa [lv_args, xj_ic, xj_lc, xj_rv_cat] using hw
/-! RecurrenceBookLaw.busy(LRecurrenceBook;II[J)I -/
def fL_busy (v0 : xj_Rf) (v1 : Int32) (v2 : Int32) (v3 : xj_Rf) (A : xj_H) : Option xj_R :=
  xj_ki (xj_rq A v0 0 (fB_busy v0 v1 v2 A)) (fun x3 A4 =>
    (xj_las A4 v3 (0 : Int32) (Int32.toInt64 x3)).bind fun A5 =>
    some (.inl (some (.int (0 : Int32))), A5))
  (fun x7 A6 =>
    if x7 = "java/lang/IllegalArgumentException" then
      some (.inl (some (.int (1 : Int32))), A6)
    else none)
theorem wL_busy {l : Launch} (hl : l.stackTraces = false) {z : xj_F} (B : xj_B l yL_busy method_9_code 5 (some .int) [(0, 10, 13, 13)] 7 z) (v0 : xj_Rf) (v1 : Int32) (v2 : Int32) (v3 : xj_Rf) (A : xj_H) (h : fL_busy v0 v1 v2 v3 A = some (xf_r z)) : xj_W l z 0 [(0, xj_rv v0), (1, .int v1), (2, .int v2), (3, xj_rv v3)] [] A := by
  unfold fL_busy at h
  refine xg_aload_n (pc := 0) (i := 3) (r := v3) B dL_busy_0 rfl rfl ?_
  refine xg_iconst (pc := 1) (v := 0) B dL_busy_1 (by decide) ?_
  refine xg_aload_n (pc := 2) (i := 0) (r := v0) B dL_busy_2 rfl rfl ?_
  refine xg_iload_n (pc := 3) (i := 1) B dL_busy_3 rfl rfl ?_
  refine xg_iload_n (pc := 4) (i := 2) B dL_busy_4 rfl rfl ?_
  obtain ⟨hq5, h⟩ := xj_rq_ki h
  refine xg_ki (pc := 5) (av := [xj_rv v0, .int v1, .int v2]) (st := [.int (0 : Int32), xj_rv v3]) (cy := prog_1_method_11_code) (nLy := 6) (rety := (some .int)) (hsy := []) B dL_busy_5 (xj_go_v B dL_busy_5 vwL_38 rfl hq5) (xj_vw_c vwL_38) (xj_vw_i vwL_38) (by decide) (by decide) (by simp [xj_ic, xj_lc, xj_rv_cat]) (fun r9 h9 => cB_busy hl _ _ _ _ r9 h9) h (fun x3 A4 eA4 h => ?_) (fun x7 A6 eA6 h => ?_)
  · refine xg_i2l (pc := 8) B dL_busy_8 ?_
    refine xg_lastore (pc := 9) B dL_busy_9 h (fun A5 eA5 h => ?_)
    refine xg_goto (pc := 10) (tgt := 17) B dL_busy_10 (by decide) ?_
    refine xg_iconst (pc := 17) (v := 0) B dL_busy_17 (by decide) ?_
    exact xg_iret B dL_busy_18 h
  · obtain ⟨hx5, h⟩ := xj_ifn h
    subst hx5
    refine xj_X.catch1 (name := "java/lang/IllegalArgumentException") (i := 4) (ls' := [(0, xj_rv v0), (1, .int v1), (2, .int v2), (3, xj_rv v3)]) B rfl ⟨by decide, by decide⟩ (by decide) (xm_t 186 (by decide +kernel) rfl) (xm_t 196 (by decide +kernel) rfl) dL_busy_13 (Or.inr ⟨rfl, rfl⟩) (by decide) ⟨xj_nq (a := 0) (i := 4) (by decide), xj_nq (a := 1) (i := 4) (by decide), xj_nq (a := 2) (i := 4) (by decide), fun _ => xj_rv_cat v3, trivial⟩ rfl ?_
    refine xg_iconst (pc := 15) (v := 1) B dL_busy_15 (by decide) ?_
    exact xg_iret B dL_busy_16 h
theorem cL_busy {l : Launch} (hl : l.stackTraces = false) (v0 : xj_Rf) (v1 : Int32) (v2 : Int32) (v3 : xj_Rf) (A : xj_H) (r : xj_R) (h : fL_busy v0 v1 v2 v3 A = some r) : xj_M l yL_busy method_9_code 5 (some .int) [(0, 10, 13, 13)] 7 [xj_rv v0, .int v1, .int v2, xj_rv v3] A r := by
  refine xj_M.of hl (by decide +kernel) (by simp [lg_sl, xj_ic, xj_lc, xj_rv_cat]) (fun z B hA hr => ?_)
  subst hr
  have hw := wL_busy hl B v0 v1 v2 v3 A h
  simpa [lv_args, xj_ic, xj_lc, xj_rv_cat] using hw
/-! RecurrenceBookLaw.span(LRecurrenceBook;IZ[J)I -/
def fL_span (v0 : xj_Rf) (v1 : Int32) (v2 : Int32) (v3 : xj_Rf) (A : xj_H) : Option xj_R :=
  xj_ki (xj_rq A v0 0 (fB_span v0 v1 v2 A)) (fun x3 A4 =>
    (xj_las A4 v3 (0 : Int32) (Int32.toInt64 x3)).bind fun A5 =>
    some (.inl (some (.int (0 : Int32))), A5))
  (fun x7 A6 =>
    if x7 = "java/util/NoSuchElementException" then
      some (.inl (some (.int (1 : Int32))), A6)
    else none)
theorem wL_span {l : Launch} (hl : l.stackTraces = false) {z : xj_F} (B : xj_B l yL_span method_10_code 5 (some .int) [(0, 10, 13, 25)] 7 z) (v0 : xj_Rf) (v1 : Int32) (v2 : Int32) (v3 : xj_Rf) (A : xj_H) (h : fL_span v0 v1 v2 v3 A = some (xf_r z)) : xj_W l z 0 [(0, xj_rv v0), (1, .int v1), (2, .int v2), (3, xj_rv v3)] [] A := by
  unfold fL_span at h
  refine xg_aload_n (pc := 0) (i := 3) (r := v3) B dL_span_0 rfl rfl ?_
  refine xg_iconst (pc := 1) (v := 0) B dL_span_1 (by decide) ?_
  refine xg_aload_n (pc := 2) (i := 0) (r := v0) B dL_span_2 rfl rfl ?_
  refine xg_iload_n (pc := 3) (i := 1) B dL_span_3 rfl rfl ?_
  refine xg_iload_n (pc := 4) (i := 2) B dL_span_4 rfl rfl ?_
  obtain ⟨hq5, h⟩ := xj_rq_ki h
  refine xg_ki (pc := 5) (av := [xj_rv v0, .int v1, .int v2]) (st := [.int (0 : Int32), xj_rv v3]) (cy := prog_1_method_12_code) (nLy := 3) (rety := (some .int)) (hsy := []) B dL_span_5 (xj_go_v B dL_span_5 vwL_41 rfl hq5) (xj_vw_c vwL_41) (xj_vw_i vwL_41) (by decide) (by decide) (by simp [xj_ic, xj_lc, xj_rv_cat]) (fun r9 h9 => cB_span hl _ _ _ _ r9 h9) h (fun x3 A4 eA4 h => ?_) (fun x7 A6 eA6 h => ?_)
  · refine xg_i2l (pc := 8) B dL_span_8 ?_
    refine xg_lastore (pc := 9) B dL_span_9 h (fun A5 eA5 h => ?_)
    refine xg_goto (pc := 10) (tgt := 17) B dL_span_10 (by decide) ?_
    refine xg_iconst (pc := 17) (v := 0) B dL_span_17 (by decide) ?_
    exact xg_iret B dL_span_18 h
  · obtain ⟨hx5, h⟩ := xj_ifn h
    subst hx5
    refine xj_X.catch1 (name := "java/util/NoSuchElementException") (i := 4) (ls' := [(0, xj_rv v0), (1, .int v1), (2, .int v2), (3, xj_rv v3)]) B rfl ⟨by decide, by decide⟩ (by decide) (xm_t 652 (by decide +kernel) rfl) (xm_t 663 (by decide +kernel) rfl) dL_span_13 (Or.inr ⟨rfl, rfl⟩) (by decide) ⟨xj_nq (a := 0) (i := 4) (by decide), xj_nq (a := 1) (i := 4) (by decide), xj_nq (a := 2) (i := 4) (by decide), fun _ => xj_rv_cat v3, trivial⟩ rfl ?_
    refine xg_iconst (pc := 15) (v := 1) B dL_span_15 (by decide) ?_
    exact xg_iret B dL_span_16 h
theorem cL_span {l : Launch} (hl : l.stackTraces = false) (v0 : xj_Rf) (v1 : Int32) (v2 : Int32) (v3 : xj_Rf) (A : xj_H) (r : xj_R) (h : fL_span v0 v1 v2 v3 A = some r) : xj_M l yL_span method_10_code 5 (some .int) [(0, 10, 13, 25)] 7 [xj_rv v0, .int v1, .int v2, xj_rv v3] A r := by
  refine xj_M.of hl (by decide +kernel) (by simp [lg_sl, xj_ic, xj_lc, xj_rv_cat]) (fun z B hA hr => ?_)
  subst hr
  have hw := wL_span hl B v0 v1 v2 v3 A h
  simpa [lv_args, xj_ic, xj_lc, xj_rv_cat] using hw
/-! RecurrenceBookLaw.clash(LRecurrenceBook;II[J)I -/
def fL_clash (v0 : xj_Rf) (v1 : Int32) (v2 : Int32) (v3 : xj_Rf) (A : xj_H) : Option xj_R :=
  xj_ki (xj_rq A v0 0 (fB_clash v0 v1 v2 A)) (fun x3 A4 =>
    (xj_las A4 v3 (0 : Int32) (Int32.toInt64 x3)).bind fun A5 =>
    some (.inl (some (.int (0 : Int32))), A5))
  (fun x7 A6 =>
    if x7 = "java/util/NoSuchElementException" then
      some (.inl (some (.int (1 : Int32))), A6)
    else none)
theorem wL_clash {l : Launch} (hl : l.stackTraces = false) {z : xj_F} (B : xj_B l yL_clash method_11_code 5 (some .int) [(0, 10, 13, 25)] 8 z) (v0 : xj_Rf) (v1 : Int32) (v2 : Int32) (v3 : xj_Rf) (A : xj_H) (h : fL_clash v0 v1 v2 v3 A = some (xf_r z)) : xj_W l z 0 [(0, xj_rv v0), (1, .int v1), (2, .int v2), (3, xj_rv v3)] [] A := by
  unfold fL_clash at h
  refine xg_aload_n (pc := 0) (i := 3) (r := v3) B dL_clash_0 rfl rfl ?_
  refine xg_iconst (pc := 1) (v := 0) B dL_clash_1 (by decide) ?_
  refine xg_aload_n (pc := 2) (i := 0) (r := v0) B dL_clash_2 rfl rfl ?_
  refine xg_iload_n (pc := 3) (i := 1) B dL_clash_3 rfl rfl ?_
  refine xg_iload_n (pc := 4) (i := 2) B dL_clash_4 rfl rfl ?_
  obtain ⟨hq5, h⟩ := xj_rq_ki h
  refine xg_ki (pc := 5) (av := [xj_rv v0, .int v1, .int v2]) (st := [.int (0 : Int32), xj_rv v3]) (cy := prog_1_method_13_code) (nLy := 3) (rety := (some .int)) (hsy := []) B dL_clash_5 (xj_go_v B dL_clash_5 vwL_45 rfl hq5) (xj_vw_c vwL_45) (xj_vw_i vwL_45) (by decide) (by decide) (by simp [xj_ic, xj_lc, xj_rv_cat]) (fun r9 h9 => cB_clash hl _ _ _ _ r9 h9) h (fun x3 A4 eA4 h => ?_) (fun x7 A6 eA6 h => ?_)
  · refine xg_i2l (pc := 8) B dL_clash_8 ?_
    refine xg_lastore (pc := 9) B dL_clash_9 h (fun A5 eA5 h => ?_)
    refine xg_goto (pc := 10) (tgt := 17) B dL_clash_10 (by decide) ?_
    refine xg_iconst (pc := 17) (v := 0) B dL_clash_17 (by decide) ?_
    exact xg_iret B dL_clash_18 h
  · obtain ⟨hx5, h⟩ := xj_ifn h
    subst hx5
    refine xj_X.catch1 (name := "java/util/NoSuchElementException") (i := 4) (ls' := [(0, xj_rv v0), (1, .int v1), (2, .int v2), (3, xj_rv v3)]) B rfl ⟨by decide, by decide⟩ (by decide) (xm_t 652 (by decide +kernel) rfl) (xm_t 663 (by decide +kernel) rfl) dL_clash_13 (Or.inr ⟨rfl, rfl⟩) (by decide) ⟨xj_nq (a := 0) (i := 4) (by decide), xj_nq (a := 1) (i := 4) (by decide), xj_nq (a := 2) (i := 4) (by decide), fun _ => xj_rv_cat v3, trivial⟩ rfl ?_
    refine xg_iconst (pc := 15) (v := 1) B dL_clash_15 (by decide) ?_
    exact xg_iret B dL_clash_16 h
theorem cL_clash {l : Launch} (hl : l.stackTraces = false) (v0 : xj_Rf) (v1 : Int32) (v2 : Int32) (v3 : xj_Rf) (A : xj_H) (r : xj_R) (h : fL_clash v0 v1 v2 v3 A = some r) : xj_M l yL_clash method_11_code 5 (some .int) [(0, 10, 13, 25)] 8 [xj_rv v0, .int v1, .int v2, xj_rv v3] A r := by
  refine xj_M.of hl (by decide +kernel) (by simp [lg_sl, xj_ic, xj_lc, xj_rv_cat]) (fun z B hA hr => ?_)
  subst hr
  have hw := wL_clash hl B v0 v1 v2 v3 A h
  simpa [lv_args, xj_ic, xj_lc, xj_rv_cat] using hw

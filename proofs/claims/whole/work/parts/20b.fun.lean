/-! RecurrenceBook$Zone.<init>()V -/
def fZ_init (v0 : xj_Rf) (A : xj_H) : Option xj_R :=
  if xj_isw v0 = true then
  (xj_mk A (.inl (0, 100, .inl (fun _ => 0))) 100).bind fun A1 =>
  (xj_pv A1 v0 1 2 (xj_rv (xj_o A.1.length))).bind fun A2 =>
  (xj_mk A2 (.inl (0, 100, .inl (fun _ => 0))) 100).bind fun A3 =>
  (xj_pv A3 v0 1 3 (xj_rv (xj_o A2.1.length))).bind fun A4 =>
  some (.inl none, A4)
  else none
theorem wZ_init {l : Launch} (hl : l.stackTraces = false) {z : xj_F} (B : xj_B l yZ_init prog_9_method_1_code 1 none [] 1 z) (v0 : xj_Rf) (A : xj_H) (h : fZ_init v0 A = some (xf_r z)) : xj_W l z 0 [(0, xj_rv v0)] [] A := by
  unfold fZ_init at h
  refine xg_aload_n (pc := 0) (i := 0) (r := v0) B dZ_init_0 rfl rfl ?_
  obtain ⟨a1, ha1, h⟩ := xj_isw_inv h
  refine xg_objInit (pc := 1) B ha1 dZ_init_1 owZ_3 ow_i ow_c (by decide) (by decide) ?_
  refine xg_aload_n (pc := 4) (i := 0) (r := v0) B dZ_init_4 rfl rfl ?_
  refine xg_bipush (pc := 5) (v := 100) B dZ_init_5 (by decide) ?_
  refine xg_newa (pc := 7) (t := 0) (N := 100) (a1 := .inl (fun _ => 0)) B dZ_init_7 rfl (fun _ => rfl) (fun _ h9 => by cases h9) aw_int (fun _ => rfl) (fun _ _ => rfl) (fun _ => trivial) (by decide) (by decide) (by decide) h (fun A1 eA1 h => ?_)
  refine xg_putr (pc := 9) B (Or.inr ⟨_, rfl⟩) dZ_init_9 fpZ_9 h (fun A2 eA2 h => ?_)
  refine xg_aload_n (pc := 12) (i := 0) (r := v0) B dZ_init_12 rfl rfl ?_
  refine xg_bipush (pc := 13) (v := 100) B dZ_init_13 (by decide) ?_
  refine xg_newa (pc := 15) (t := 0) (N := 100) (a1 := .inl (fun _ => 0)) B dZ_init_15 rfl (fun _ => rfl) (fun _ h9 => by cases h9) aw_int (fun _ => rfl) (fun _ _ => rfl) (fun _ => trivial) (by decide) (by decide) (by decide) h (fun A3 eA3 h => ?_)
  refine xg_putr (pc := 17) B (Or.inr ⟨_, rfl⟩) dZ_init_17 fpZ_15 h (fun A4 eA4 h => ?_)
  exact xg_vret B dZ_init_20 h
theorem cZ_init {l : Launch} (hl : l.stackTraces = false) (v0 : xj_Rf) (A : xj_H) (r : xj_R) (h : fZ_init v0 A = some r) : xj_M l yZ_init prog_9_method_1_code 1 none [] 1 [xj_rv v0] A r := by
  refine xj_M.of hl (by decide +kernel) (by simp [lg_sl, xj_ic, xj_lc, xj_rv_cat]) (fun z B hA hr => ?_)
  subst hr
  have hw := wZ_init hl B v0 A h
  simpa [lv_args, xj_ic, xj_lc, xj_rv_cat] using hw
/-! java/lang/Math.floorMod(II)I -/
def fJ_floorMod_18 (v2 : Int32) (A : xj_H) : Option xj_R :=
  some (.inl (some (.int v2)), A)
def fJ_floorMod (v0 : Int32) (v1 : Int32) (A : xj_H) : Option xj_R :=
  if v1 = 0 then none else
  if 0 ≤ (v0 ^^^ v1) then
    fJ_floorMod_18 (v0 % v1) A
  else
    if (v0 % v1) = 0 then
      fJ_floorMod_18 (v0 % v1) A
    else
      some (.inl (some (.int ((v0 % v1) + v1))), A)
theorem wJ_floorMod_18 {l : Launch} (hl : l.stackTraces = false) {z : xj_F} (B : xj_B l yJ_floorMod prog_16_method_50_code 3 (some .int) [] 1 z) (v2 : Int32) (A : xj_H) (h : fJ_floorMod_18 v2 A = some (xf_r z)) : xj_W l z 18 [(2, .int v2)] [] A := by
  unfold fJ_floorMod_18 at h
  refine xg_iload_n (pc := 18) (i := 2) B dJ_floorMod_18 rfl rfl ?_
  exact xg_iret B dJ_floorMod_19 h
theorem wJ_floorMod {l : Launch} (hl : l.stackTraces = false) {z : xj_F} (B : xj_B l yJ_floorMod prog_16_method_50_code 3 (some .int) [] 1 z) (v0 : Int32) (v1 : Int32) (A : xj_H) (h : fJ_floorMod v0 v1 A = some (xf_r z)) : xj_W l z 0 [(0, .int v0), (1, .int v1)] [] A := by
  unfold fJ_floorMod at h
  refine xg_iload_n (pc := 0) (i := 0) B dJ_floorMod_0 rfl rfl ?_
  refine xg_iload_n (pc := 1) (i := 1) B dJ_floorMod_1 rfl rfl ?_
  have hne2 : ¬ v1 = 0 := fun hc => by rw [if_pos hc] at h; cases h
  rw [if_neg hne2] at h
  refine xg_irem (pc := 2) B dJ_floorMod_2 hne2 ?_
  refine xg_istore_n (pc := 3) (i := 2) (ls' := [(2, .int (v0 % v1)), (0, .int v0), (1, .int v1)]) B dJ_floorMod_3 rfl (by decide) ⟨xj_nq (a := 0) (i := 2) (by decide), fun _ => rfl, trivial⟩ rfl ?_
  refine xg_iload_n (pc := 4) (i := 0) B dJ_floorMod_4 rfl rfl ?_
  refine xg_iload_n (pc := 5) (i := 1) B dJ_floorMod_5 rfl rfl ?_
  refine xg_ixor (pc := 6) B dJ_floorMod_6 ?_
  refine xg_if_ge (pc := 7) (tgt := 18) B dJ_floorMod_7 (by decide) h (fun c7 h => ?_) (fun c7 h => ?_)
  · refine xg_sub (ls' := [(2, .int (v0 % v1))]) [0] rfl ?_
    exact wJ_floorMod_18 hl B (v0 % v1) A h
  · refine xg_iload_n (pc := 10) (i := 2) B dJ_floorMod_10 rfl rfl ?_
    refine xg_if_eq (pc := 11) (tgt := 18) B dJ_floorMod_11 (by decide) h (fun c11 h => ?_) (fun c11 h => ?_)
    · refine xg_sub (ls' := [(2, .int (v0 % v1))]) [0] rfl ?_
      exact wJ_floorMod_18 hl B (v0 % v1) A h
    · refine xg_iload_n (pc := 14) (i := 2) B dJ_floorMod_14 rfl rfl ?_
      refine xg_iload_n (pc := 15) (i := 1) B dJ_floorMod_15 rfl rfl ?_
      refine xg_iadd (pc := 16) B dJ_floorMod_16 ?_
      exact xg_iret B dJ_floorMod_17 h
theorem cJ_floorMod {l : Launch} (hl : l.stackTraces = false) (v0 : Int32) (v1 : Int32) (A : xj_H) (r : xj_R) (h : fJ_floorMod v0 v1 A = some r) : xj_M l yJ_floorMod prog_16_method_50_code 3 (some .int) [] 1 [.int v0, .int v1] A r := by
  refine xj_M.of hl (by decide +kernel) (by simp [lg_sl, xj_ic, xj_lc, xj_rv_cat]) (fun z B hA hr => ?_)
  subst hr
  have hw := wJ_floorMod hl B v0 v1 A h
  simpa [lv_args, xj_ic, xj_lc, xj_rv_cat] using hw
/-! RecurrenceBook$Dates.monthStart(I)I -/
def fD_monthStart_28 (v1 : Int32) (v2 : Int32) (s0 : Int32) (A : xj_H) : Option xj_R :=
  (xj_tb v2).bind fun x1 =>
  some (.inl (some (.int (((((365 : Int32) * v1) + ((v1 + (3 : Int32)) / (4 : Int32))) + x1) + s0))), A)
def fD_monthStart_27 (v1 : Int32) (v2 : Int32) (A : xj_H) : Option xj_R :=
  fD_monthStart_28 v1 v2 (0 : Int32) A
def fD_monthStart (v0 : Int32) (A : xj_H) : Option xj_R :=
  xj_bi (fJ_floorMod v0 (12 : Int32) A) fun x1 A2 =>
  if x1 < (2 : Int32) then
    fD_monthStart_27 (v0 / (12 : Int32)) x1 A2
  else
    if ¬ ((v0 / (12 : Int32)) % (4 : Int32)) = 0 then
      fD_monthStart_27 (v0 / (12 : Int32)) x1 A2
    else
      fD_monthStart_28 (v0 / (12 : Int32)) x1 (1 : Int32) A2
theorem wD_monthStart_28 {l : Launch} (hl : l.stackTraces = false) {z : xj_F} (B : xj_B l yD_monthStart prog_2_method_4_code 4 (some .int) [] 2 z) (v1 : Int32) (v2 : Int32) (s0 : Int32) (A : xj_H) (h : fD_monthStart_28 v1 v2 s0 A = some (xf_r z)) : xj_W l z 28 [(1, .int v1), (2, .int v2)] [.int s0] A := by
  unfold fD_monthStart_28 at h
  refine xg_istore_n (pc := 28) (i := 3) (ls' := [(3, .int s0), (1, .int v1), (2, .int v2)]) B dD_monthStart_28 rfl (by decide) ⟨xj_nq (a := 1) (i := 3) (by decide), fun _ => rfl, trivial⟩ rfl ?_
  refine xg_sipush (pc := 29) (v := 365) B dD_monthStart_29 (by decide) ?_
  refine xg_iload_n (pc := 32) (i := 1) B dD_monthStart_32 rfl rfl ?_
  refine xg_imul (pc := 33) B dD_monthStart_33 ?_
  refine xg_iload_n (pc := 34) (i := 1) B dD_monthStart_34 rfl rfl ?_
  refine xg_iconst (pc := 35) (v := 3) B dD_monthStart_35 (by decide) ?_
  refine xg_iadd (pc := 36) B dD_monthStart_36 ?_
  refine xg_iconst (pc := 37) (v := 4) B dD_monthStart_37 (by decide) ?_
  refine xg_idiv (pc := 38) B dD_monthStart_38 (by decide) ?_
  refine xg_iadd (pc := 39) B dD_monthStart_39 ?_
  refine xg_gett (pc := 40) B dD_monthStart_40 gsD_17 ?_
  refine xg_iload_n (pc := 43) (i := 2) B dD_monthStart_43 rfl rfl ?_
  refine xg_tload (pc := 44) B dD_monthStart_44 h (fun x1 ex1 h => ?_)
  refine xg_iadd (pc := 45) B dD_monthStart_45 ?_
  refine xg_iload_n (pc := 46) (i := 3) B dD_monthStart_46 rfl rfl ?_
  refine xg_iadd (pc := 47) B dD_monthStart_47 ?_
  exact xg_iret B dD_monthStart_48 h
theorem wD_monthStart_27 {l : Launch} (hl : l.stackTraces = false) {z : xj_F} (B : xj_B l yD_monthStart prog_2_method_4_code 4 (some .int) [] 2 z) (v1 : Int32) (v2 : Int32) (A : xj_H) (h : fD_monthStart_27 v1 v2 A = some (xf_r z)) : xj_W l z 27 [(1, .int v1), (2, .int v2)] [] A := by
  unfold fD_monthStart_27 at h
  refine xg_iconst (pc := 27) (v := 0) B dD_monthStart_27 (by decide) ?_
  exact wD_monthStart_28 hl B v1 v2 (0 : Int32) A h
theorem wD_monthStart {l : Launch} (hl : l.stackTraces = false) {z : xj_F} (B : xj_B l yD_monthStart prog_2_method_4_code 4 (some .int) [] 2 z) (v0 : Int32) (A : xj_H) (h : fD_monthStart v0 A = some (xf_r z)) : xj_W l z 0 [(0, .int v0)] [] A := by
  unfold fD_monthStart at h
  refine xg_iload_n (pc := 0) (i := 0) B dD_monthStart_0 rfl rfl ?_
  refine xg_bipush (pc := 1) (v := 12) B dD_monthStart_1 (by decide) ?_
  refine xg_idiv (pc := 3) B dD_monthStart_3 (by decide) ?_
  refine xg_istore_n (pc := 4) (i := 1) (ls' := [(1, .int (v0 / (12 : Int32))), (0, .int v0)]) B dD_monthStart_4 rfl (by decide) ⟨fun _ => rfl, trivial⟩ rfl ?_
  refine xg_iload_n (pc := 5) (i := 0) B dD_monthStart_5 rfl rfl ?_
  refine xg_bipush (pc := 6) (v := 12) B dD_monthStart_6 (by decide) ?_
  refine xg_ci (pc := 8) (av := [.int v0, .int (12 : Int32)]) (st := []) (cy := prog_16_method_50_code) (nLy := 3) (rety := (some .int)) (hsy := []) B dD_monthStart_8 (xj_go_s B dD_monthStart_8 swD_11 rfl) swD_11.2.2.1 swD_11.2.2.2.1 (by decide) (by decide) (by decide) rfl (fun r9 h9 => cJ_floorMod hl _ _ _ r9 h9) h (fun x1 A2 eA2 h => ?_)
  refine xg_istore_n (pc := 11) (i := 2) (ls' := [(2, .int x1), (1, .int (v0 / (12 : Int32))), (0, .int v0)]) B dD_monthStart_11 rfl (by decide) ⟨fun _ => rfl, xj_nq (a := 0) (i := 2) (by decide), trivial⟩ rfl ?_
  refine xg_iload_n (pc := 12) (i := 2) B dD_monthStart_12 rfl rfl ?_
  refine xg_iconst (pc := 13) (v := 2) B dD_monthStart_13 (by decide) ?_
  refine xg_icmp_lt (pc := 14) (tgt := 27) B dD_monthStart_14 (by decide) h (fun c14 h => ?_) (fun c14 h => ?_)
  · refine xg_sub (ls' := [(1, .int (v0 / (12 : Int32))), (2, .int x1)]) [1, 0] rfl ?_
    exact wD_monthStart_27 hl B (v0 / (12 : Int32)) x1 A2 h
  · refine xg_iload_n (pc := 17) (i := 1) B dD_monthStart_17 rfl rfl ?_
    refine xg_iconst (pc := 18) (v := 4) B dD_monthStart_18 (by decide) ?_
    refine xg_irem (pc := 19) B dD_monthStart_19 (by decide) ?_
    refine xg_if_ne (pc := 20) (tgt := 27) B dD_monthStart_20 (by decide) h (fun c20 h => ?_) (fun c20 h => ?_)
    · refine xg_sub (ls' := [(1, .int (v0 / (12 : Int32))), (2, .int x1)]) [1, 0] rfl ?_
      exact wD_monthStart_27 hl B (v0 / (12 : Int32)) x1 A2 h
    · refine xg_iconst (pc := 23) (v := 1) B dD_monthStart_23 (by decide) ?_
      refine xg_goto (pc := 24) (tgt := 28) B dD_monthStart_24 (by decide) ?_
      refine xg_sub (ls' := [(1, .int (v0 / (12 : Int32))), (2, .int x1)]) [1, 0] rfl ?_
      exact wD_monthStart_28 hl B (v0 / (12 : Int32)) x1 (1 : Int32) A2 h
theorem cD_monthStart {l : Launch} (hl : l.stackTraces = false) (v0 : Int32) (A : xj_H) (r : xj_R) (h : fD_monthStart v0 A = some r) : xj_M l yD_monthStart prog_2_method_4_code 4 (some .int) [] 2 [.int v0] A r := by
  refine xj_M.of hl (by decide +kernel) (by simp [lg_sl, xj_ic, xj_lc, xj_rv_cat]) (fun z B hA hr => ?_)
  subst hr
  have hw := wD_monthStart hl B v0 A h
  simpa [lv_args, xj_ic, xj_lc, xj_rv_cat] using hw
/-! RecurrenceBook$Dates.weekdayOf(I)I -/
def fD_weekdayOf (v0 : Int32) (A : xj_H) : Option xj_R :=
  some (.inl (some (.int ((v0 + (5 : Int32)) % (7 : Int32)))), A)
theorem wD_weekdayOf {l : Launch} (hl : l.stackTraces = false) {z : xj_F} (B : xj_B l yD_weekdayOf prog_2_method_2_code 1 (some .int) [] 1 z) (v0 : Int32) (A : xj_H) (h : fD_weekdayOf v0 A = some (xf_r z)) : xj_W l z 0 [(0, .int v0)] [] A := by
  unfold fD_weekdayOf at h
  refine xg_iload_n (pc := 0) (i := 0) B dD_weekdayOf_0 rfl rfl ?_
  refine xg_iconst (pc := 1) (v := 5) B dD_weekdayOf_1 (by decide) ?_
  refine xg_iadd (pc := 2) B dD_weekdayOf_2 ?_
  refine xg_bipush (pc := 3) (v := 7) B dD_weekdayOf_3 (by decide) ?_
  refine xg_irem (pc := 5) B dD_weekdayOf_5 (by decide) ?_
  exact xg_iret B dD_weekdayOf_6 h
theorem cD_weekdayOf {l : Launch} (hl : l.stackTraces = false) (v0 : Int32) (A : xj_H) (r : xj_R) (h : fD_weekdayOf v0 A = some r) : xj_M l yD_weekdayOf prog_2_method_2_code 1 (some .int) [] 1 [.int v0] A r := by
  refine xj_M.of hl (by decide +kernel) (by simp [lg_sl, xj_ic, xj_lc, xj_rv_cat]) (fun z B hA hr => ?_)
  subst hr
  have hw := wD_weekdayOf hl B v0 A h
  simpa [lv_args, xj_ic, xj_lc, xj_rv_cat] using hw
/-! RecurrenceBook$Dates.sundayOf(II)I -/
def fD_sundayOf_40 (s0 : Int32) (A : xj_H) : Option xj_R :=
  some (.inl (some (.int s0)), A)
def fD_sundayOf (v0 : Int32) (v1 : Int32) (A : xj_H) : Option xj_R :=
  xj_bi (fD_monthStart v0 A) fun x1 A2 =>
  xj_bi (fD_weekdayOf x1 A2) fun x3 A4 =>
  xj_bi (fD_monthStart (v0 + (1 : Int32)) A4) fun x5 A6 =>
  if x5 ≤ (((x1 + (6 : Int32)) - x3) + ((7 : Int32) * (v1 - (1 : Int32)))) then
    fD_sundayOf_40 ((((x1 + (6 : Int32)) - x3) + ((7 : Int32) * (v1 - (1 : Int32)))) - (7 : Int32)) A6
  else
    fD_sundayOf_40 (((x1 + (6 : Int32)) - x3) + ((7 : Int32) * (v1 - (1 : Int32)))) A6
theorem wD_sundayOf_40 {l : Launch} (hl : l.stackTraces = false) {z : xj_F} (B : xj_B l yD_sundayOf prog_2_method_7_code 4 (some .int) [] 3 z) (s0 : Int32) (A : xj_H) (h : fD_sundayOf_40 s0 A = some (xf_r z)) : xj_W l z 40 [] [.int s0] A := by
  unfold fD_sundayOf_40 at h
  exact xg_iret B dD_sundayOf_40 h
theorem wD_sundayOf {l : Launch} (hl : l.stackTraces = false) {z : xj_F} (B : xj_B l yD_sundayOf prog_2_method_7_code 4 (some .int) [] 3 z) (v0 : Int32) (v1 : Int32) (A : xj_H) (h : fD_sundayOf v0 v1 A = some (xf_r z)) : xj_W l z 0 [(0, .int v0), (1, .int v1)] [] A := by
  unfold fD_sundayOf at h
  refine xg_iload_n (pc := 0) (i := 0) B dD_sundayOf_0 rfl rfl ?_
  refine xg_ci (pc := 1) (av := [.int v0]) (st := []) (cy := prog_2_method_4_code) (nLy := 4) (rety := (some .int)) (hsy := []) B dD_sundayOf_1 (xj_go_s B dD_sundayOf_1 swD_25 rfl) swD_25.2.2.1 swD_25.2.2.2.1 (by decide) (by decide) (by decide) rfl (fun r9 h9 => cD_monthStart hl _ _ r9 h9) h (fun x1 A2 eA2 h => ?_)
  refine xg_istore_n (pc := 4) (i := 2) (ls' := [(2, .int x1), (0, .int v0), (1, .int v1)]) B dD_sundayOf_4 rfl (by decide) ⟨xj_nq (a := 0) (i := 2) (by decide), fun _ => rfl, trivial⟩ rfl ?_
  refine xg_iload_n (pc := 5) (i := 2) B dD_sundayOf_5 rfl rfl ?_
  refine xg_bipush (pc := 6) (v := 6) B dD_sundayOf_6 (by decide) ?_
  refine xg_iadd (pc := 8) B dD_sundayOf_8 ?_
  refine xg_iload_n (pc := 9) (i := 2) B dD_sundayOf_9 rfl rfl ?_
  refine xg_ci (pc := 10) (av := [.int x1]) (st := [.int (x1 + (6 : Int32))]) (cy := prog_2_method_2_code) (nLy := 1) (rety := (some .int)) (hsy := []) B dD_sundayOf_10 (xj_go_s B dD_sundayOf_10 swD_32 rfl) swD_32.2.2.1 swD_32.2.2.2.1 (by decide) (by decide) (by simp [xj_ic, xj_lc, xj_rv_cat]) rfl (fun r9 h9 => cD_weekdayOf hl _ _ r9 h9) h (fun x3 A4 eA4 h => ?_)
  refine xg_isub (pc := 13) B dD_sundayOf_13 ?_
  refine xg_bipush (pc := 14) (v := 7) B dD_sundayOf_14 (by decide) ?_
  refine xg_iload_n (pc := 16) (i := 1) B dD_sundayOf_16 rfl rfl ?_
  refine xg_iconst (pc := 17) (v := 1) B dD_sundayOf_17 (by decide) ?_
  refine xg_isub (pc := 18) B dD_sundayOf_18 ?_
  refine xg_imul (pc := 19) B dD_sundayOf_19 ?_
  refine xg_iadd (pc := 20) B dD_sundayOf_20 ?_
  refine xg_istore_n (pc := 21) (i := 3) (ls' := [(3, .int (((x1 + (6 : Int32)) - x3) + ((7 : Int32) * (v1 - (1 : Int32))))), (2, .int x1), (0, .int v0), (1, .int v1)]) B dD_sundayOf_21 rfl (by decide) ⟨fun _ => rfl, xj_nq (a := 0) (i := 3) (by decide), xj_nq (a := 1) (i := 3) (by decide), trivial⟩ rfl ?_
  refine xg_iload_n (pc := 22) (i := 3) B dD_sundayOf_22 rfl rfl ?_
  refine xg_iload_n (pc := 23) (i := 0) B dD_sundayOf_23 rfl rfl ?_
  refine xg_iconst (pc := 24) (v := 1) B dD_sundayOf_24 (by decide) ?_
  refine xg_iadd (pc := 25) B dD_sundayOf_25 ?_
  refine xg_ci (pc := 26) (av := [.int (v0 + (1 : Int32))]) (st := [.int (((x1 + (6 : Int32)) - x3) + ((7 : Int32) * (v1 - (1 : Int32))))]) (cy := prog_2_method_4_code) (nLy := 4) (rety := (some .int)) (hsy := []) B dD_sundayOf_26 (xj_go_s B dD_sundayOf_26 swD_25 rfl) swD_25.2.2.1 swD_25.2.2.2.1 (by decide) (by decide) (by simp [xj_ic, xj_lc, xj_rv_cat]) rfl (fun r9 h9 => cD_monthStart hl _ _ r9 h9) h (fun x5 A6 eA6 h => ?_)
  refine xg_icmp_ge (pc := 29) (tgt := 36) B dD_sundayOf_29 (by decide) h (fun c29 h => ?_) (fun c29 h => ?_)
  · refine xg_iload_n (pc := 36) (i := 3) B dD_sundayOf_36 rfl rfl ?_
    refine xg_bipush (pc := 37) (v := 7) B dD_sundayOf_37 (by decide) ?_
    refine xg_isub (pc := 39) B dD_sundayOf_39 ?_
    refine xg_sub (ls' := []) [] rfl ?_
    exact wD_sundayOf_40 hl B ((((x1 + (6 : Int32)) - x3) + ((7 : Int32) * (v1 - (1 : Int32)))) - (7 : Int32)) A6 h
  · refine xg_iload_n (pc := 32) (i := 3) B dD_sundayOf_32 rfl rfl ?_
    refine xg_goto (pc := 33) (tgt := 40) B dD_sundayOf_33 (by decide) ?_
    refine xg_sub (ls' := []) [] rfl ?_
    exact wD_sundayOf_40 hl B (((x1 + (6 : Int32)) - x3) + ((7 : Int32) * (v1 - (1 : Int32)))) A6 h
theorem cD_sundayOf {l : Launch} (hl : l.stackTraces = false) (v0 : Int32) (v1 : Int32) (A : xj_H) (r : xj_R) (h : fD_sundayOf v0 v1 A = some r) : xj_M l yD_sundayOf prog_2_method_7_code 4 (some .int) [] 3 [.int v0, .int v1] A r := by
  refine xj_M.of hl (by decide +kernel) (by simp [lg_sl, xj_ic, xj_lc, xj_rv_cat]) (fun z B hA hr => ?_)
  subst hr
  have hw := wD_sundayOf hl B v0 v1 A h
  simpa [lv_args, xj_ic, xj_lc, xj_rv_cat] using hw
/-! RecurrenceBook$Zone.change(IIIIII)V -/
def fZ_change_13 : Nat → xj_Rf → Int32 → Int32 → Int32 → Int32 → Int32 → xj_H → Option xj_R
  | 0, _, _, _, _, _, _, _ => none
  | n + 1, v0, v3, v4, v5, v6, v7, A =>
    if (100 : Int32) ≤ v7 then
      some (.inl none, A)
    else
      xj_bi (fD_sundayOf ((((12 : Int32) * v7) + v3) - (1 : Int32)) v4 A) fun x1 A2 =>
      xj_bi (fD_sundayOf ((((12 : Int32) * v7) + v5) - (1 : Int32)) v6 A2) fun x3 A4 =>
      (xj_gr A4 v0 1 2).bind fun x5 =>
      (xj_gi A4 v0 1 0).bind fun x6 =>
      (xj_as A4 x5 0 v7 ((((1440 : Int32) * x1) + (120 : Int32)) - x6)).bind fun A7 =>
      (xj_gr A7 v0 1 3).bind fun x8 =>
      (xj_gi A7 v0 1 1).bind fun x9 =>
      (xj_as A7 x8 0 v7 ((((1440 : Int32) * x3) + (180 : Int32)) - x9)).bind fun A10 =>
      (fZ_change_13 n) v0 v3 v4 v5 v6 (v7 + 1) A10
def fZ_change (v0 : xj_Rf) (v1 : Int32) (v2 : Int32) (v3 : Int32) (v4 : Int32) (v5 : Int32) (v6 : Int32) (A : xj_H) : Option xj_R :=
  (xj_pv A v0 1 0 (.int v1)).bind fun A1 =>
  (xj_pv A1 v0 1 1 (.int v2)).bind fun A2 =>
  fZ_change_13 xj_fu v0 v3 v4 v5 v6 (0 : Int32) A2
theorem wZ_change_13 {l : Launch} (hl : l.stackTraces = false) {z : xj_F} (B : xj_B l yZ_change prog_9_method_2_code 10 none [] 4 z) : ∀ (n : Nat) (v0 : xj_Rf) (v3 : Int32) (v4 : Int32) (v5 : Int32) (v6 : Int32) (v7 : Int32) (A : xj_H), fZ_change_13 n v0 v3 v4 v5 v6 v7 A = some (xf_r z) → xj_W l z 13 [(0, xj_rv v0), (3, .int v3), (4, .int v4), (5, .int v5), (6, .int v6), (7, .int v7)] [] A
  | 0, _, _, _, _, _, _, _, h => by simp [fZ_change_13] at h
  | n + 1, v0, v3, v4, v5, v6, v7, A, h => by
    rw [fZ_change_13] at h
    refine xg_iload (pc := 13) (i := 7) B dZ_change_13 rfl ?_
    refine xg_bipush (pc := 15) (v := 100) B dZ_change_15 (by decide) ?_
    refine xg_icmp_ge (pc := 17) (tgt := 102) B dZ_change_17 (by decide) h (fun c17 h => ?_) (fun c17 h => ?_)
    · exact xg_vret B dZ_change_102 h
    · refine xg_bipush (pc := 20) (v := 12) B dZ_change_20 (by decide) ?_
      refine xg_iload (pc := 22) (i := 7) B dZ_change_22 rfl ?_
      refine xg_imul (pc := 24) B dZ_change_24 ?_
      refine xg_iload_n (pc := 25) (i := 3) B dZ_change_25 rfl rfl ?_
      refine xg_iadd (pc := 26) B dZ_change_26 ?_
      refine xg_iconst (pc := 27) (v := 1) B dZ_change_27 (by decide) ?_
      refine xg_isub (pc := 28) B dZ_change_28 ?_
      refine xg_iload (pc := 29) (i := 4) B dZ_change_29 rfl ?_
      refine xg_ci (pc := 31) (av := [.int ((((12 : Int32) * v7) + v3) - (1 : Int32)), .int v4]) (st := []) (cy := prog_2_method_7_code) (nLy := 4) (rety := (some .int)) (hsy := []) B dZ_change_31 (xj_go_s B dZ_change_31 swZ_25 rfl) swZ_25.2.2.1 swZ_25.2.2.2.1 (by decide) (by decide) (by decide) rfl (fun r9 h9 => cD_sundayOf hl _ _ _ r9 h9) h (fun x1 A2 eA2 h => ?_)
      refine xg_istore (pc := 34) (i := 8) (ls' := [(8, .int x1), (0, xj_rv v0), (3, .int v3), (4, .int v4), (5, .int v5), (6, .int v6), (7, .int v7)]) B dZ_change_34 (by decide) ⟨xj_nq (a := 0) (i := 8) (by decide), xj_nq (a := 3) (i := 8) (by decide), xj_nq (a := 4) (i := 8) (by decide), xj_nq (a := 5) (i := 8) (by decide), xj_nq (a := 6) (i := 8) (by decide), fun _ => rfl, trivial⟩ rfl ?_
      refine xg_bipush (pc := 36) (v := 12) B dZ_change_36 (by decide) ?_
      refine xg_iload (pc := 38) (i := 7) B dZ_change_38 rfl ?_
      refine xg_imul (pc := 40) B dZ_change_40 ?_
      refine xg_iload (pc := 41) (i := 5) B dZ_change_41 rfl ?_
      refine xg_iadd (pc := 43) B dZ_change_43 ?_
      refine xg_iconst (pc := 44) (v := 1) B dZ_change_44 (by decide) ?_
      refine xg_isub (pc := 45) B dZ_change_45 ?_
      refine xg_iload (pc := 46) (i := 6) B dZ_change_46 rfl ?_
      refine xg_ci (pc := 48) (av := [.int ((((12 : Int32) * v7) + v5) - (1 : Int32)), .int v6]) (st := []) (cy := prog_2_method_7_code) (nLy := 4) (rety := (some .int)) (hsy := []) B dZ_change_48 (xj_go_s B dZ_change_48 swZ_25 rfl) swZ_25.2.2.1 swZ_25.2.2.2.1 (by decide) (by decide) (by decide) rfl (fun r9 h9 => cD_sundayOf hl _ _ _ r9 h9) h (fun x3 A4 eA4 h => ?_)
      refine xg_istore (pc := 51) (i := 9) (ls' := [(9, .int x3), (8, .int x1), (0, xj_rv v0), (3, .int v3), (4, .int v4), (5, .int v5), (6, .int v6), (7, .int v7)]) B dZ_change_51 (by decide) ⟨fun _ => rfl, xj_nq (a := 0) (i := 9) (by decide), xj_nq (a := 3) (i := 9) (by decide), xj_nq (a := 4) (i := 9) (by decide), xj_nq (a := 5) (i := 9) (by decide), xj_nq (a := 6) (i := 9) (by decide), xj_nq (a := 7) (i := 9) (by decide), trivial⟩ rfl ?_
      refine xg_aload_n (pc := 53) (i := 0) (r := v0) B dZ_change_53 rfl rfl ?_
      refine xg_getr (pc := 54) B dZ_change_54 flZ_9 h (fun x5 ex5 h => ?_)
      refine xg_iload (pc := 57) (i := 7) B dZ_change_57 rfl ?_
      refine xg_sipush (pc := 59) (v := 1440) B dZ_change_59 (by decide) ?_
      refine xg_iload (pc := 62) (i := 8) B dZ_change_62 rfl ?_
      refine xg_imul (pc := 64) B dZ_change_64 ?_
      refine xg_bipush (pc := 65) (v := 120) B dZ_change_65 (by decide) ?_
      refine xg_iadd (pc := 67) B dZ_change_67 ?_
      refine xg_aload_n (pc := 68) (i := 0) (r := v0) B dZ_change_68 rfl rfl ?_
      refine xg_geti (pc := 69) B dZ_change_69 flZ_18 h (fun x6 ex6 h => ?_)
      refine xg_isub (pc := 72) B dZ_change_72 ?_
      refine xg_iastore (pc := 73) B dZ_change_73 h (fun A7 eA7 h => ?_)
      refine xg_aload_n (pc := 74) (i := 0) (r := v0) B dZ_change_74 rfl rfl ?_
      refine xg_getr (pc := 75) B dZ_change_75 flZ_15 h (fun x8 ex8 h => ?_)
      refine xg_iload (pc := 78) (i := 7) B dZ_change_78 rfl ?_
      refine xg_sipush (pc := 80) (v := 1440) B dZ_change_80 (by decide) ?_
      refine xg_iload (pc := 83) (i := 9) B dZ_change_83 rfl ?_
      refine xg_imul (pc := 85) B dZ_change_85 ?_
      refine xg_sipush (pc := 86) (v := 180) B dZ_change_86 (by decide) ?_
      refine xg_iadd (pc := 89) B dZ_change_89 ?_
      refine xg_aload_n (pc := 90) (i := 0) (r := v0) B dZ_change_90 rfl rfl ?_
      refine xg_geti (pc := 91) B dZ_change_91 flZ_22 h (fun x9 ex9 h => ?_)
      refine xg_isub (pc := 94) B dZ_change_94 ?_
      refine xg_iastore (pc := 95) B dZ_change_95 h (fun A10 eA10 h => ?_)
      refine xg_iinc (pc := 96) (i := 7) (v := (v7 + 1)) (ls' := [(7, .int (v7 + 1)), (9, .int x3), (8, .int x1), (0, xj_rv v0), (3, .int v3), (4, .int v4), (5, .int v5), (6, .int v6)]) B dZ_change_96 rfl (xj_inc_1 _) (by decide) ⟨xj_nq (a := 9) (i := 7) (by decide), xj_nq (a := 8) (i := 7) (by decide), xj_nq (a := 0) (i := 7) (by decide), xj_nq (a := 3) (i := 7) (by decide), xj_nq (a := 4) (i := 7) (by decide), xj_nq (a := 5) (i := 7) (by decide), fun _ => rfl, xj_nq (a := 7) (i := 7) (by decide), trivial⟩ rfl ?_
      refine xg_goto (pc := 99) (tgt := 13) B dZ_change_99 (by decide) ?_
      refine xg_sub (ls' := [(0, xj_rv v0), (3, .int v3), (4, .int v4), (5, .int v5), (6, .int v6), (7, .int (v7 + 1))]) [3, 4, 5, 6, 7, 0] rfl ?_
      exact (wZ_change_13 hl B n) v0 v3 v4 v5 v6 (v7 + 1) A10 h
theorem wZ_change {l : Launch} (hl : l.stackTraces = false) {z : xj_F} (B : xj_B l yZ_change prog_9_method_2_code 10 none [] 4 z) (v0 : xj_Rf) (v1 : Int32) (v2 : Int32) (v3 : Int32) (v4 : Int32) (v5 : Int32) (v6 : Int32) (A : xj_H) (h : fZ_change v0 v1 v2 v3 v4 v5 v6 A = some (xf_r z)) : xj_W l z 0 [(0, xj_rv v0), (1, .int v1), (2, .int v2), (3, .int v3), (4, .int v4), (5, .int v5), (6, .int v6)] [] A := by
  unfold fZ_change at h
  refine xg_aload_n (pc := 0) (i := 0) (r := v0) B dZ_change_0 rfl rfl ?_
  refine xg_iload_n (pc := 1) (i := 1) B dZ_change_1 rfl rfl ?_
  refine xg_puti (pc := 2) B dZ_change_2 (fpZ_18 _) h (fun A1 eA1 h => ?_)
  refine xg_aload_n (pc := 5) (i := 0) (r := v0) B dZ_change_5 rfl rfl ?_
  refine xg_iload_n (pc := 6) (i := 2) B dZ_change_6 rfl rfl ?_
  refine xg_puti (pc := 7) B dZ_change_7 (fpZ_22 _) h (fun A2 eA2 h => ?_)
  refine xg_iconst (pc := 10) (v := 0) B dZ_change_10 (by decide) ?_
  refine xg_istore (pc := 11) (i := 7) (ls' := [(7, .int (0 : Int32)), (0, xj_rv v0), (1, .int v1), (2, .int v2), (3, .int v3), (4, .int v4), (5, .int v5), (6, .int v6)]) B dZ_change_11 (by decide) ⟨xj_nq (a := 0) (i := 7) (by decide), xj_nq (a := 1) (i := 7) (by decide), xj_nq (a := 2) (i := 7) (by decide), xj_nq (a := 3) (i := 7) (by decide), xj_nq (a := 4) (i := 7) (by decide), xj_nq (a := 5) (i := 7) (by decide), fun _ => rfl, trivial⟩ rfl ?_
  refine xg_sub (ls' := [(0, xj_rv v0), (3, .int v3), (4, .int v4), (5, .int v5), (6, .int v6), (7, .int (0 : Int32))]) [1, 4, 5, 6, 7, 0] rfl ?_
  exact wZ_change_13 hl B xj_fu v0 v3 v4 v5 v6 (0 : Int32) A2 h
theorem cZ_change {l : Launch} (hl : l.stackTraces = false) (v0 : xj_Rf) (v1 : Int32) (v2 : Int32) (v3 : Int32) (v4 : Int32) (v5 : Int32) (v6 : Int32) (A : xj_H) (r : xj_R) (h : fZ_change v0 v1 v2 v3 v4 v5 v6 A = some r) : xj_M l yZ_change prog_9_method_2_code 10 none [] 4 [xj_rv v0, .int v1, .int v2, .int v3, .int v4, .int v5, .int v6] A r := by
  refine xj_M.of hl (by decide +kernel) (by simp [lg_sl, xj_ic, xj_lc, xj_rv_cat]) (fun z B hA hr => ?_)
  subst hr
  have hw := wZ_change hl B v0 v1 v2 v3 v4 v5 v6 A h
  simpa [lv_args, xj_ic, xj_lc, xj_rv_cat] using hw
/-! RecurrenceBook$Event.<init>()V -/
def fE_init (v0 : xj_Rf) (A : xj_H) : Option xj_R :=
  if xj_isw v0 = true then
  (xj_mk A (.inl (0, 200, .inl (fun _ => 0))) 200).bind fun A1 =>
  (xj_pv A1 v0 2 0 (xj_rv (xj_o A.1.length))).bind fun A2 =>
  (xj_mk A2 (.inl (0, 200, .inl (fun _ => 0))) 200).bind fun A3 =>
  (xj_pv A3 v0 2 1 (xj_rv (xj_o A2.1.length))).bind fun A4 =>
  some (.inl none, A4)
  else none
theorem wE_init {l : Launch} (hl : l.stackTraces = false) {z : xj_F} (B : xj_B l yE_init prog_3_method_1_code 1 none [] 1 z) (v0 : xj_Rf) (A : xj_H) (h : fE_init v0 A = some (xf_r z)) : xj_W l z 0 [(0, xj_rv v0)] [] A := by
  unfold fE_init at h
  refine xg_aload_n (pc := 0) (i := 0) (r := v0) B dE_init_0 rfl rfl ?_
  obtain ⟨a1, ha1, h⟩ := xj_isw_inv h
  refine xg_objInit (pc := 1) B ha1 dE_init_1 owE_3 ow_i ow_c (by decide) (by decide) ?_
  refine xg_aload_n (pc := 4) (i := 0) (r := v0) B dE_init_4 rfl rfl ?_
  refine xg_sipush (pc := 5) (v := 200) B dE_init_5 (by decide) ?_
  refine xg_newa (pc := 8) (t := 0) (N := 200) (a1 := .inl (fun _ => 0)) B dE_init_8 rfl (fun _ => rfl) (fun _ h9 => by cases h9) aw_int (fun _ => rfl) (fun _ _ => rfl) (fun _ => trivial) (by decide) (by decide) (by decide) h (fun A1 eA1 h => ?_)
  refine xg_putr (pc := 10) B (Or.inr ⟨_, rfl⟩) dE_init_10 fpE_9 h (fun A2 eA2 h => ?_)
  refine xg_aload_n (pc := 13) (i := 0) (r := v0) B dE_init_13 rfl rfl ?_
  refine xg_sipush (pc := 14) (v := 200) B dE_init_14 (by decide) ?_
  refine xg_newa (pc := 17) (t := 0) (N := 200) (a1 := .inl (fun _ => 0)) B dE_init_17 rfl (fun _ => rfl) (fun _ h9 => by cases h9) aw_int (fun _ => rfl) (fun _ _ => rfl) (fun _ => trivial) (by decide) (by decide) (by decide) h (fun A3 eA3 h => ?_)
  refine xg_putr (pc := 19) B (Or.inr ⟨_, rfl⟩) dE_init_19 fpE_15 h (fun A4 eA4 h => ?_)
  exact xg_vret B dE_init_22 h
theorem cE_init {l : Launch} (hl : l.stackTraces = false) (v0 : xj_Rf) (A : xj_H) (r : xj_R) (h : fE_init v0 A = some r) : xj_M l yE_init prog_3_method_1_code 1 none [] 1 [xj_rv v0] A r := by
  refine xj_M.of hl (by decide +kernel) (by simp [lg_sl, xj_ic, xj_lc, xj_rv_cat]) (fun z B hA hr => ?_)
  subst hr
  have hw := wE_init hl B v0 A h
  simpa [lv_args, xj_ic, xj_lc, xj_rv_cat] using hw
/-! RecurrenceBook$Spans.<init>()V -/
def fS_init (v0 : xj_Rf) (A : xj_H) : Option xj_R :=
  if xj_isw v0 = true then
  (xj_mk A (.inl (0, 1600, .inl (fun _ => 0))) 1600).bind fun A1 =>
  (xj_pv A1 v0 3 0 (xj_rv (xj_o A.1.length))).bind fun A2 =>
  (xj_mk A2 (.inl (0, 1600, .inl (fun _ => 0))) 1600).bind fun A3 =>
  (xj_pv A3 v0 3 1 (xj_rv (xj_o A2.1.length))).bind fun A4 =>
  (xj_pv A4 v0 3 2 (.int (0 : Int32))).bind fun A5 =>
  some (.inl none, A5)
  else none
theorem wS_init {l : Launch} (hl : l.stackTraces = false) {z : xj_F} (B : xj_B l yS_init prog_7_method_1_code 1 none [] 1 z) (v0 : xj_Rf) (A : xj_H) (h : fS_init v0 A = some (xf_r z)) : xj_W l z 0 [(0, xj_rv v0)] [] A := by
  unfold fS_init at h
  refine xg_aload_n (pc := 0) (i := 0) (r := v0) B dS_init_0 rfl rfl ?_
  obtain ⟨a1, ha1, h⟩ := xj_isw_inv h
  refine xg_objInit (pc := 1) B ha1 dS_init_1 owS_3 ow_i ow_c (by decide) (by decide) ?_
  refine xg_aload_n (pc := 4) (i := 0) (r := v0) B dS_init_4 rfl rfl ?_
  refine xg_sipush (pc := 5) (v := 1600) B dS_init_5 (by decide) ?_
  refine xg_newa (pc := 8) (t := 0) (N := 1600) (a1 := .inl (fun _ => 0)) B dS_init_8 rfl (fun _ => rfl) (fun _ h9 => by cases h9) aw_int (fun _ => rfl) (fun _ _ => rfl) (fun _ => trivial) (by decide) (by decide) (by decide) h (fun A1 eA1 h => ?_)
  refine xg_putr (pc := 10) B (Or.inr ⟨_, rfl⟩) dS_init_10 fpS_9 h (fun A2 eA2 h => ?_)
  refine xg_aload_n (pc := 13) (i := 0) (r := v0) B dS_init_13 rfl rfl ?_
  refine xg_sipush (pc := 14) (v := 1600) B dS_init_14 (by decide) ?_
  refine xg_newa (pc := 17) (t := 0) (N := 1600) (a1 := .inl (fun _ => 0)) B dS_init_17 rfl (fun _ => rfl) (fun _ h9 => by cases h9) aw_int (fun _ => rfl) (fun _ _ => rfl) (fun _ => trivial) (by decide) (by decide) (by decide) h (fun A3 eA3 h => ?_)
  refine xg_putr (pc := 19) B (Or.inr ⟨_, rfl⟩) dS_init_19 fpS_15 h (fun A4 eA4 h => ?_)
  refine xg_aload_n (pc := 22) (i := 0) (r := v0) B dS_init_22 rfl rfl ?_
  refine xg_iconst (pc := 23) (v := 0) B dS_init_23 (by decide) ?_
  refine xg_puti (pc := 24) B dS_init_24 (fpS_18 _) h (fun A5 eA5 h => ?_)
  exact xg_vret B dS_init_27 h
theorem cS_init {l : Launch} (hl : l.stackTraces = false) (v0 : xj_Rf) (A : xj_H) (r : xj_R) (h : fS_init v0 A = some r) : xj_M l yS_init prog_7_method_1_code 1 none [] 1 [xj_rv v0] A r := by
  refine xj_M.of hl (by decide +kernel) (by simp [lg_sl, xj_ic, xj_lc, xj_rv_cat]) (fun z B hA hr => ?_)
  subst hr
  have hw := wS_init hl B v0 A h
  simpa [lv_args, xj_ic, xj_lc, xj_rv_cat] using hw
/-! RecurrenceBook.<init>()V -/
def fB_init_53 : Nat → xj_Rf → Int32 → xj_H → Option xj_R
  | 0, _, _, _ => none
  | n + 1, v0, v1, A =>
    if (8 : Int32) ≤ v1 then
      (xj_pv A v0 0 4 (.int (0 : Int32))).bind fun A1 =>
      (xj_mk A1 (.inl (0, 8, .inl (fun _ => 0))) 8).bind fun A2 =>
      (xj_pv A2 v0 0 5 (xj_rv (xj_o A1.1.length))).bind fun A3 =>
      (xj_mk A3 (.inr (3, [.null, .null, .int 0, .int 0, .int 0])) 5).bind fun A4 =>
      xj_bv (fS_init (xj_o A3.1.length) A4) fun A5 =>
      (xj_pv A5 v0 0 6 (xj_rv (xj_o A3.1.length))).bind fun A6 =>
      some (.inl none, A6)
    else
      (xj_gr A v0 0 3).bind fun x7 =>
      (xj_mk A (.inr (2, [.null, .null, .int 0, .int 0, .int 0, .int 0])) 6).bind fun A8 =>
      xj_bv (fE_init (xj_o A.1.length) A8) fun A9 =>
      (xj_ras A9 x7 v1 2 (xj_o A.1.length)).bind fun A10 =>
      (fB_init_53 n) v0 (v1 + 1) A10
def fB_init (v0 : xj_Rf) (A : xj_H) : Option xj_R :=
  if xj_isw v0 = true then
  (xj_mk A (.inl (1, 60, .inl (fun _ => 0))) 60).bind fun A1 =>
  (xj_pv A1 v0 0 0 (xj_rv (xj_o A.1.length))).bind fun A2 =>
  (xj_pv A2 v0 0 1 (.int (0 : Int32))).bind fun A3 =>
  (xj_mk A3 (.inr (1, [.int 0, .int 0, .null, .null])) 4).bind fun A4 =>
  xj_bv (fZ_init (xj_o A3.1.length) A4) fun A5 =>
  (xj_pv A5 v0 0 2 (xj_rv (xj_o A3.1.length))).bind fun A6 =>
  (xj_gr A6 v0 0 2).bind fun x7 =>
  xj_bv (xj_rq A6 x7 1 (fZ_change x7 (0 : Int32) (0 : Int32) (3 : Int32) (5 : Int32) (10 : Int32) (5 : Int32) A6)) fun A8 =>
  (xj_mk A8 (.inl (4, 8, .inr (.inr (.inr (.inr (fun _ => none)))))) 8).bind fun A9 =>
  (xj_pv A9 v0 0 3 (xj_rv (xj_o A8.1.length))).bind fun A10 =>
  fB_init_53 xj_fu v0 (0 : Int32) A10
  else none
theorem wB_init_53 {l : Launch} (hl : l.stackTraces = false) {z : xj_F} (B : xj_B l yB_init prog_1_method_1_code 2 none [] 5 z) : ∀ (n : Nat) (v0 : xj_Rf) (v1 : Int32) (A : xj_H), fB_init_53 n v0 v1 A = some (xf_r z) → xj_W l z 53 [(0, xj_rv v0), (1, .int v1)] [] A
  | 0, _, _, _, h => by simp [fB_init_53] at h
  | n + 1, v0, v1, A, h => by
    rw [fB_init_53] at h
    refine xg_iload_n (pc := 53) (i := 1) B dB_init_53 rfl rfl ?_
    refine xg_bipush (pc := 54) (v := 8) B dB_init_54 (by decide) ?_
    refine xg_icmp_ge (pc := 56) (tgt := 78) B dB_init_56 (by decide) h (fun c56 h => ?_) (fun c56 h => ?_)
    · refine xg_aload_n (pc := 78) (i := 0) (r := v0) B dB_init_78 rfl rfl ?_
      refine xg_iconst (pc := 79) (v := 0) B dB_init_79 (by decide) ?_
      refine xg_puti (pc := 80) B dB_init_80 (fpB_35 _) h (fun A1 eA1 h => ?_)
      refine xg_aload_n (pc := 83) (i := 0) (r := v0) B dB_init_83 rfl rfl ?_
      refine xg_bipush (pc := 84) (v := 8) B dB_init_84 (by decide) ?_
      refine xg_newa (pc := 86) (t := 0) (N := 8) (a1 := .inl (fun _ => 0)) B dB_init_86 rfl (fun _ => rfl) (fun _ h9 => by cases h9) aw_int (fun _ => rfl) (fun _ _ => rfl) (fun _ => trivial) (by decide) (by decide) (by decide) h (fun A2 eA2 h => ?_)
      refine xg_putr (pc := 88) B (Or.inr ⟨_, rfl⟩) dB_init_88 fpB_38 h (fun A3 eA3 h => ?_)
      refine xg_aload_n (pc := 91) (i := 0) (r := v0) B dB_init_91 rfl rfl ?_
      refine xg_new (pc := 92) B dB_init_92 nkB_42 h (fun A4 eA4 h => ?_)
      refine xg_dup (pc := 95) B dB_init_95 (xj_rv_cat (xj_o A3.1.length)) ?_
      refine xg_cv (pc := 96) (av := [xj_rv (xj_o A3.1.length)]) (st := [xj_rv (xj_o A3.1.length), xj_rv v0]) (cy := prog_7_method_1_code) (nLy := 1) (rety := none) (hsy := []) B dB_init_96 (xj_go_i B dB_init_96 iwB_44 rfl) iwB_44.2.2.1 iwB_44.2.2.2.1 (by decide) (by decide) (by simp [xj_ic, xj_lc, xj_rv_cat]) rfl (fun r9 h9 => cS_init hl _ _ r9 h9) h (fun A5 eA5 h => ?_)
      refine xg_putr (pc := 99) B (Or.inl ⟨_, rfl⟩) dB_init_99 fpB_45 h (fun A6 eA6 h => ?_)
      exact xg_vret B dB_init_102 h
    · refine xg_aload_n (pc := 59) (i := 0) (r := v0) B dB_init_59 rfl rfl ?_
      refine xg_getr (pc := 60) B dB_init_60 flB_30 h (fun x7 ex7 h => ?_)
      refine xg_iload_n (pc := 63) (i := 1) B dB_init_63 rfl rfl ?_
      refine xg_new (pc := 64) B dB_init_64 nkB_28 h (fun A8 eA8 h => ?_)
      refine xg_dup (pc := 67) B dB_init_67 (xj_rv_cat (xj_o A.1.length)) ?_
      refine xg_cv (pc := 68) (av := [xj_rv (xj_o A.1.length)]) (st := [xj_rv (xj_o A.1.length), .int v1, xj_rv x7]) (cy := prog_3_method_1_code) (nLy := 1) (rety := none) (hsy := []) B dB_init_68 (xj_go_i B dB_init_68 iwB_34 rfl) iwB_34.2.2.1 iwB_34.2.2.2.1 (by decide) (by decide) (by simp [xj_ic, xj_lc, xj_rv_cat]) rfl (fun r9 h9 => cE_init hl _ _ r9 h9) h (fun A9 eA9 h => ?_)
      refine xg_aastore (pc := 71) B ⟨_, rfl, rfl⟩ dB_init_71 h (fun A10 eA10 h => ?_)
      refine xg_iinc (pc := 72) (i := 1) (v := (v1 + 1)) (ls' := [(1, .int (v1 + 1)), (0, xj_rv v0)]) B dB_init_72 rfl (xj_inc_1 _) (by decide) ⟨fun _ => xj_rv_cat v0, xj_nq (a := 1) (i := 1) (by decide), trivial⟩ rfl ?_
      refine xg_goto (pc := 75) (tgt := 53) B dB_init_75 (by decide) ?_
      refine xg_sub (ls' := [(0, xj_rv v0), (1, .int (v1 + 1))]) [1, 0] rfl ?_
      exact (wB_init_53 hl B n) v0 (v1 + 1) A10 h
theorem wB_init {l : Launch} (hl : l.stackTraces = false) {z : xj_F} (B : xj_B l yB_init prog_1_method_1_code 2 none [] 5 z) (v0 : xj_Rf) (A : xj_H) (h : fB_init v0 A = some (xf_r z)) : xj_W l z 0 [(0, xj_rv v0)] [] A := by
  unfold fB_init at h
  refine xg_aload_n (pc := 0) (i := 0) (r := v0) B dB_init_0 rfl rfl ?_
  obtain ⟨a1, ha1, h⟩ := xj_isw_inv h
  refine xg_objInit (pc := 1) B ha1 dB_init_1 owB_3 ow_i ow_c (by decide) (by decide) ?_
  refine xg_aload_n (pc := 4) (i := 0) (r := v0) B dB_init_4 rfl rfl ?_
  refine xg_bipush (pc := 5) (v := 60) B dB_init_5 (by decide) ?_
  refine xg_newa (pc := 7) (t := 1) (N := 60) (a1 := .inl (fun _ => 0)) B dB_init_7 rfl (fun _ => rfl) (fun _ h9 => by cases h9) aw_char (fun _ => rfl) (fun _ _ => rfl) (fun _ => trivial) (by decide) (by decide) (by decide) h (fun A1 eA1 h => ?_)
  refine xg_putr (pc := 9) B (Or.inr ⟨_, rfl⟩) dB_init_9 fpB_9 h (fun A2 eA2 h => ?_)
  refine xg_aload_n (pc := 12) (i := 0) (r := v0) B dB_init_12 rfl rfl ?_
  refine xg_iconst (pc := 13) (v := 0) B dB_init_13 (by decide) ?_
  refine xg_puti (pc := 14) B dB_init_14 (fpB_13 _) h (fun A3 eA3 h => ?_)
  refine xg_aload_n (pc := 17) (i := 0) (r := v0) B dB_init_17 rfl rfl ?_
  refine xg_new (pc := 18) B dB_init_18 nkB_17 h (fun A4 eA4 h => ?_)
  refine xg_dup (pc := 21) B dB_init_21 (xj_rv_cat (xj_o A3.1.length)) ?_
  refine xg_cv (pc := 22) (av := [xj_rv (xj_o A3.1.length)]) (st := [xj_rv (xj_o A3.1.length), xj_rv v0]) (cy := prog_9_method_1_code) (nLy := 1) (rety := none) (hsy := []) B dB_init_22 (xj_go_i B dB_init_22 iwB_19 rfl) iwB_19.2.2.1 iwB_19.2.2.2.1 (by decide) (by decide) (by simp [xj_ic, xj_lc, xj_rv_cat]) rfl (fun r9 h9 => cZ_init hl _ _ r9 h9) h (fun A5 eA5 h => ?_)
  refine xg_putr (pc := 25) B (Or.inl ⟨_, rfl⟩) dB_init_25 fpB_20 h (fun A6 eA6 h => ?_)
  refine xg_aload_n (pc := 28) (i := 0) (r := v0) B dB_init_28 rfl rfl ?_
  refine xg_getr (pc := 29) B dB_init_29 flB_20 h (fun x7 ex7 h => ?_)
  refine xg_iconst (pc := 32) (v := 0) B dB_init_32 (by decide) ?_
  refine xg_iconst (pc := 33) (v := 0) B dB_init_33 (by decide) ?_
  refine xg_iconst (pc := 34) (v := 3) B dB_init_34 (by decide) ?_
  refine xg_iconst (pc := 35) (v := 5) B dB_init_35 (by decide) ?_
  refine xg_bipush (pc := 36) (v := 10) B dB_init_36 (by decide) ?_
  refine xg_iconst (pc := 38) (v := 5) B dB_init_38 (by decide) ?_
  obtain ⟨hq39, h⟩ := xj_rq_v h
  refine xg_cv (pc := 39) (av := [xj_rv x7, .int (0 : Int32), .int (0 : Int32), .int (3 : Int32), .int (5 : Int32), .int (10 : Int32), .int (5 : Int32)]) (st := []) (cy := prog_9_method_2_code) (nLy := 10) (rety := none) (hsy := []) B dB_init_39 (xj_go_v B dB_init_39 vwB_24 rfl hq39) (xj_vw_c vwB_24) (xj_vw_i vwB_24) (by decide) (by decide) (by decide) rfl (fun r9 h9 => cZ_change hl _ _ _ _ _ _ _ _ r9 h9) h (fun A8 eA8 h => ?_)
  refine xg_aload_n (pc := 42) (i := 0) (r := v0) B dB_init_42 rfl rfl ?_
  refine xg_bipush (pc := 43) (v := 8) B dB_init_43 (by decide) ?_
  refine xg_newq (pc := 45) (N := 8) B dB_init_45 clB_28 (by decide) (by decide) (by decide) h (fun A9 eA9 h => ?_)
  refine xg_putr (pc := 48) B (Or.inr ⟨_, rfl⟩) dB_init_48 fpB_30 h (fun A10 eA10 h => ?_)
  refine xg_iconst (pc := 51) (v := 0) B dB_init_51 (by decide) ?_
  refine xg_istore_n (pc := 52) (i := 1) (ls' := [(1, .int (0 : Int32)), (0, xj_rv v0)]) B dB_init_52 rfl (by decide) ⟨fun _ => xj_rv_cat v0, trivial⟩ rfl ?_
  refine xg_sub (ls' := [(0, xj_rv v0), (1, .int (0 : Int32))]) [1, 0] rfl ?_
  exact wB_init_53 hl B xj_fu v0 (0 : Int32) A10 h
theorem cB_init {l : Launch} (hl : l.stackTraces = false) (v0 : xj_Rf) (A : xj_H) (r : xj_R) (h : fB_init v0 A = some r) : xj_M l yB_init prog_1_method_1_code 2 none [] 5 [xj_rv v0] A r := by
  refine xj_M.of hl (by decide +kernel) (by simp [lg_sl, xj_ic, xj_lc, xj_rv_cat]) (fun z B hA hr => ?_)
  subst hr
  have hw := wB_init hl B v0 A h
  simpa [lv_args, xj_ic, xj_lc, xj_rv_cat] using hw
/-! RecurrenceBook.type(C)Z -/
def fB_type (v0 : xj_Rf) (v1 : Int32) (A : xj_H) : Option xj_R :=
  (xj_gi A v0 0 1).bind fun x1 =>
  if x1 < (60 : Int32) then
    (xj_gr A v0 0 0).bind fun x2 =>
    (xj_gi A v0 0 1).bind fun x3 =>
    (xj_as A x2 1 x3 (vp_nar .char v1)).bind fun A4 =>
    (xj_gi A4 v0 0 1).bind fun x5 =>
    (xj_pv A4 v0 0 1 (.int (x5 + (1 : Int32)))).bind fun A6 =>
    xj_rz (1 : Int32) A6
  else
    xj_rz (0 : Int32) A
theorem wB_type {l : Launch} (hl : l.stackTraces = false) {z : xj_F} (B : xj_B l yB_type prog_1_method_2_code 2 (some .boolean) [] 1 z) (v0 : xj_Rf) (v1 : Int32) (A : xj_H) (h : fB_type v0 v1 A = some (xf_r z)) : xj_W l z 0 [(0, xj_rv v0), (1, .int v1)] [] A := by
  unfold fB_type at h
  refine xg_aload_n (pc := 0) (i := 0) (r := v0) B dB_type_0 rfl rfl ?_
  refine xg_geti (pc := 1) B dB_type_1 flB_13 h (fun x1 ex1 h => ?_)
  refine xg_bipush (pc := 4) (v := 60) B dB_type_4 (by decide) ?_
  refine xg_icmp_lt (pc := 6) (tgt := 11) B dB_type_6 (by decide) h (fun c6 h => ?_) (fun c6 h => ?_)
  · refine xg_aload_n (pc := 11) (i := 0) (r := v0) B dB_type_11 rfl rfl ?_
    refine xg_getr (pc := 12) B dB_type_12 flB_9 h (fun x2 ex2 h => ?_)
    refine xg_aload_n (pc := 15) (i := 0) (r := v0) B dB_type_15 rfl rfl ?_
    refine xg_geti (pc := 16) B dB_type_16 flB_13 h (fun x3 ex3 h => ?_)
    refine xg_iload_n (pc := 19) (i := 1) B dB_type_19 rfl rfl ?_
    refine xg_castore (pc := 20) B dB_type_20 h (fun A4 eA4 h => ?_)
    refine xg_aload_n (pc := 21) (i := 0) (r := v0) B dB_type_21 rfl rfl ?_
    refine xg_dup (pc := 22) B dB_type_22 (xj_rv_cat v0) ?_
    refine xg_geti (pc := 23) B dB_type_23 flB_13 h (fun x5 ex5 h => ?_)
    refine xg_iconst (pc := 26) (v := 1) B dB_type_26 (by decide) ?_
    refine xg_iadd (pc := 27) B dB_type_27 ?_
    refine xg_puti (pc := 28) B dB_type_28 (fpB_13 _) h (fun A6 eA6 h => ?_)
    refine xg_iconst (pc := 31) (v := 1) B dB_type_31 (by decide) ?_
    exact xg_zret B dB_type_32 h
  · refine xg_iconst (pc := 9) (v := 0) B dB_type_9 (by decide) ?_
    exact xg_zret B dB_type_10 h
theorem cB_type {l : Launch} (hl : l.stackTraces = false) (v0 : xj_Rf) (v1 : Int32) (A : xj_H) (r : xj_R) (h : fB_type v0 v1 A = some r) : xj_M l yB_type prog_1_method_2_code 2 (some .boolean) [] 1 [xj_rv v0, .int v1] A r := by
  refine xj_M.of hl (by decide +kernel) (by simp [lg_sl, xj_ic, xj_lc, xj_rv_cat]) (fun z B hA hr => ?_)
  subst hr
  have hw := wB_type hl B v0 v1 A h
  simpa [lv_args, xj_ic, xj_lc, xj_rv_cat] using hw
/-! RecurrenceBook.isOffset(I)Z -/
def fB_isOffset_19 (s0 : Int32) (A : xj_H) : Option xj_R :=
  xj_rz s0 A
def fB_isOffset_18 (A : xj_H) : Option xj_R :=
  fB_isOffset_19 (0 : Int32) A
def fB_isOffset (v0 : Int32) (A : xj_H) : Option xj_R :=
  if v0 < (-840 : Int32) then
    fB_isOffset_18  A
  else
    if (840 : Int32) < v0 then
      fB_isOffset_18  A
    else
      fB_isOffset_19 (1 : Int32) A
theorem wB_isOffset_19 {l : Launch} (hl : l.stackTraces = false) {z : xj_F} (B : xj_B l yB_isOffset prog_1_method_18_code 1 (some .boolean) [] 1 z) (s0 : Int32) (A : xj_H) (h : fB_isOffset_19 s0 A = some (xf_r z)) : xj_W l z 19 [] [.int s0] A := by
  unfold fB_isOffset_19 at h
  exact xg_zret B dB_isOffset_19 h
theorem wB_isOffset_18 {l : Launch} (hl : l.stackTraces = false) {z : xj_F} (B : xj_B l yB_isOffset prog_1_method_18_code 1 (some .boolean) [] 1 z) (A : xj_H) (h : fB_isOffset_18  A = some (xf_r z)) : xj_W l z 18 [] [] A := by
  unfold fB_isOffset_18 at h
  refine xg_iconst (pc := 18) (v := 0) B dB_isOffset_18 (by decide) ?_
  exact wB_isOffset_19 hl B (0 : Int32) A h
theorem wB_isOffset {l : Launch} (hl : l.stackTraces = false) {z : xj_F} (B : xj_B l yB_isOffset prog_1_method_18_code 1 (some .boolean) [] 1 z) (v0 : Int32) (A : xj_H) (h : fB_isOffset v0 A = some (xf_r z)) : xj_W l z 0 [(0, .int v0)] [] A := by
  unfold fB_isOffset at h
  refine xg_iload_n (pc := 0) (i := 0) B dB_isOffset_0 rfl rfl ?_
  refine xg_sipush (pc := 1) (v := -840) B dB_isOffset_1 (by decide) ?_
  refine xg_icmp_lt (pc := 4) (tgt := 18) B dB_isOffset_4 (by decide) h (fun c4 h => ?_) (fun c4 h => ?_)
  · refine xg_sub (ls' := []) [] rfl ?_
    exact wB_isOffset_18 hl B  A h
  · refine xg_iload_n (pc := 7) (i := 0) B dB_isOffset_7 rfl rfl ?_
    refine xg_sipush (pc := 8) (v := 840) B dB_isOffset_8 (by decide) ?_
    refine xg_icmp_gt (pc := 11) (tgt := 18) B dB_isOffset_11 (by decide) h (fun c11 h => ?_) (fun c11 h => ?_)
    · refine xg_sub (ls' := []) [] rfl ?_
      exact wB_isOffset_18 hl B  A h
    · refine xg_iconst (pc := 14) (v := 1) B dB_isOffset_14 (by decide) ?_
      refine xg_goto (pc := 15) (tgt := 19) B dB_isOffset_15 (by decide) ?_
      refine xg_sub (ls' := []) [] rfl ?_
      exact wB_isOffset_19 hl B (1 : Int32) A h
theorem cB_isOffset {l : Launch} (hl : l.stackTraces = false) (v0 : Int32) (A : xj_H) (r : xj_R) (h : fB_isOffset v0 A = some r) : xj_M l yB_isOffset prog_1_method_18_code 1 (some .boolean) [] 1 [.int v0] A r := by
  refine xj_M.of hl (by decide +kernel) (by simp [lg_sl, xj_ic, xj_lc, xj_rv_cat]) (fun z B hA hr => ?_)
  subst hr
  have hw := wB_isOffset hl B v0 A h
  simpa [lv_args, xj_ic, xj_lc, xj_rv_cat] using hw
/-! RecurrenceBook.isMonth(I)Z -/
def fB_isMonth_16 (s0 : Int32) (A : xj_H) : Option xj_R :=
  xj_rz s0 A
def fB_isMonth_15 (A : xj_H) : Option xj_R :=
  fB_isMonth_16 (0 : Int32) A
def fB_isMonth (v0 : Int32) (A : xj_H) : Option xj_R :=
  if v0 < (1 : Int32) then
    fB_isMonth_15  A
  else
    if (12 : Int32) < v0 then
      fB_isMonth_15  A
    else
      fB_isMonth_16 (1 : Int32) A
theorem wB_isMonth_16 {l : Launch} (hl : l.stackTraces = false) {z : xj_F} (B : xj_B l yB_isMonth prog_1_method_19_code 1 (some .boolean) [] 1 z) (s0 : Int32) (A : xj_H) (h : fB_isMonth_16 s0 A = some (xf_r z)) : xj_W l z 16 [] [.int s0] A := by
  unfold fB_isMonth_16 at h
  exact xg_zret B dB_isMonth_16 h
theorem wB_isMonth_15 {l : Launch} (hl : l.stackTraces = false) {z : xj_F} (B : xj_B l yB_isMonth prog_1_method_19_code 1 (some .boolean) [] 1 z) (A : xj_H) (h : fB_isMonth_15  A = some (xf_r z)) : xj_W l z 15 [] [] A := by
  unfold fB_isMonth_15 at h
  refine xg_iconst (pc := 15) (v := 0) B dB_isMonth_15 (by decide) ?_
  exact wB_isMonth_16 hl B (0 : Int32) A h
theorem wB_isMonth {l : Launch} (hl : l.stackTraces = false) {z : xj_F} (B : xj_B l yB_isMonth prog_1_method_19_code 1 (some .boolean) [] 1 z) (v0 : Int32) (A : xj_H) (h : fB_isMonth v0 A = some (xf_r z)) : xj_W l z 0 [(0, .int v0)] [] A := by
  unfold fB_isMonth at h
  refine xg_iload_n (pc := 0) (i := 0) B dB_isMonth_0 rfl rfl ?_
  refine xg_iconst (pc := 1) (v := 1) B dB_isMonth_1 (by decide) ?_
  refine xg_icmp_lt (pc := 2) (tgt := 15) B dB_isMonth_2 (by decide) h (fun c2 h => ?_) (fun c2 h => ?_)
  · refine xg_sub (ls' := []) [] rfl ?_
    exact wB_isMonth_15 hl B  A h
  · refine xg_iload_n (pc := 5) (i := 0) B dB_isMonth_5 rfl rfl ?_
    refine xg_bipush (pc := 6) (v := 12) B dB_isMonth_6 (by decide) ?_
    refine xg_icmp_gt (pc := 8) (tgt := 15) B dB_isMonth_8 (by decide) h (fun c8 h => ?_) (fun c8 h => ?_)
    · refine xg_sub (ls' := []) [] rfl ?_
      exact wB_isMonth_15 hl B  A h
    · refine xg_iconst (pc := 11) (v := 1) B dB_isMonth_11 (by decide) ?_
      refine xg_goto (pc := 12) (tgt := 16) B dB_isMonth_12 (by decide) ?_
      refine xg_sub (ls' := []) [] rfl ?_
      exact wB_isMonth_16 hl B (1 : Int32) A h
theorem cB_isMonth {l : Launch} (hl : l.stackTraces = false) (v0 : Int32) (A : xj_H) (r : xj_R) (h : fB_isMonth v0 A = some r) : xj_M l yB_isMonth prog_1_method_19_code 1 (some .boolean) [] 1 [.int v0] A r := by
  refine xj_M.of hl (by decide +kernel) (by simp [lg_sl, xj_ic, xj_lc, xj_rv_cat]) (fun z B hA hr => ?_)
  subst hr
  have hw := wB_isMonth hl B v0 A h
  simpa [lv_args, xj_ic, xj_lc, xj_rv_cat] using hw
/-! RecurrenceBook$Dates.yearOf(I)I -/
def fD_yearOf (v0 : Int32) (A : xj_H) : Option xj_R :=
  some (.inl (some (.int (((4 : Int32) * v0) / (1461 : Int32)))), A)
theorem wD_yearOf {l : Launch} (hl : l.stackTraces = false) {z : xj_F} (B : xj_B l yD_yearOf prog_2_method_3_code 1 (some .int) [] 1 z) (v0 : Int32) (A : xj_H) (h : fD_yearOf v0 A = some (xf_r z)) : xj_W l z 0 [(0, .int v0)] [] A := by
  unfold fD_yearOf at h
  refine xg_iconst (pc := 0) (v := 4) B dD_yearOf_0 (by decide) ?_
  refine xg_iload_n (pc := 1) (i := 0) B dD_yearOf_1 rfl rfl ?_
  refine xg_imul (pc := 2) B dD_yearOf_2 ?_
  refine xg_sipush (pc := 3) (v := 1461) B dD_yearOf_3 (by decide) ?_
  refine xg_idiv (pc := 6) B dD_yearOf_6 (by decide) ?_
  exact xg_iret B dD_yearOf_7 h
theorem cD_yearOf {l : Launch} (hl : l.stackTraces = false) (v0 : Int32) (A : xj_H) (r : xj_R) (h : fD_yearOf v0 A = some r) : xj_M l yD_yearOf prog_2_method_3_code 1 (some .int) [] 1 [.int v0] A r := by
  refine xj_M.of hl (by decide +kernel) (by simp [lg_sl, xj_ic, xj_lc, xj_rv_cat]) (fun z B hA hr => ?_)
  subst hr
  have hw := wD_yearOf hl B v0 A h
  simpa [lv_args, xj_ic, xj_lc, xj_rv_cat] using hw
/-! java/lang/Math.min(II)I -/
def fJ_min_10 (s0 : Int32) (A : xj_H) : Option xj_R :=
  some (.inl (some (.int s0)), A)
def fJ_min (v0 : Int32) (v1 : Int32) (A : xj_H) : Option xj_R :=
  if v1 < v0 then
    fJ_min_10 v1 A
  else
    fJ_min_10 v0 A
theorem wJ_min_10 {l : Launch} (hl : l.stackTraces = false) {z : xj_F} (B : xj_B l yJ_min prog_16_method_69_code 2 (some .int) [] 1 z) (s0 : Int32) (A : xj_H) (h : fJ_min_10 s0 A = some (xf_r z)) : xj_W l z 10 [] [.int s0] A := by
  unfold fJ_min_10 at h
  exact xg_iret B dJ_min_10 h
theorem wJ_min {l : Launch} (hl : l.stackTraces = false) {z : xj_F} (B : xj_B l yJ_min prog_16_method_69_code 2 (some .int) [] 1 z) (v0 : Int32) (v1 : Int32) (A : xj_H) (h : fJ_min v0 v1 A = some (xf_r z)) : xj_W l z 0 [(0, .int v0), (1, .int v1)] [] A := by
  unfold fJ_min at h
  refine xg_iload_n (pc := 0) (i := 0) B dJ_min_0 rfl rfl ?_
  refine xg_iload_n (pc := 1) (i := 1) B dJ_min_1 rfl rfl ?_
  refine xg_icmp_gt (pc := 2) (tgt := 9) B dJ_min_2 (by decide) h (fun c2 h => ?_) (fun c2 h => ?_)
  · refine xg_iload_n (pc := 9) (i := 1) B dJ_min_9 rfl rfl ?_
    refine xg_sub (ls' := []) [] rfl ?_
    exact wJ_min_10 hl B v1 A h
  · refine xg_iload_n (pc := 5) (i := 0) B dJ_min_5 rfl rfl ?_
    refine xg_goto (pc := 6) (tgt := 10) B dJ_min_6 (by decide) ?_
    refine xg_sub (ls' := []) [] rfl ?_
    exact wJ_min_10 hl B v0 A h
theorem cJ_min {l : Launch} (hl : l.stackTraces = false) (v0 : Int32) (v1 : Int32) (A : xj_H) (r : xj_R) (h : fJ_min v0 v1 A = some r) : xj_M l yJ_min prog_16_method_69_code 2 (some .int) [] 1 [.int v0, .int v1] A r := by
  refine xj_M.of hl (by decide +kernel) (by simp [lg_sl, xj_ic, xj_lc, xj_rv_cat]) (fun z B hA hr => ?_)
  subst hr
  have hw := wJ_min hl B v0 v1 A h
  simpa [lv_args, xj_ic, xj_lc, xj_rv_cat] using hw
/-! java/lang/Math.max(II)I -/
def fJ_max_10 (s0 : Int32) (A : xj_H) : Option xj_R :=
  some (.inl (some (.int s0)), A)
def fJ_max (v0 : Int32) (v1 : Int32) (A : xj_H) : Option xj_R :=
  if v0 < v1 then
    fJ_max_10 v1 A
  else
    fJ_max_10 v0 A
theorem wJ_max_10 {l : Launch} (hl : l.stackTraces = false) {z : xj_F} (B : xj_B l yJ_max prog_16_method_65_code 2 (some .int) [] 1 z) (s0 : Int32) (A : xj_H) (h : fJ_max_10 s0 A = some (xf_r z)) : xj_W l z 10 [] [.int s0] A := by
  unfold fJ_max_10 at h
  exact xg_iret B dJ_max_10 h
theorem wJ_max {l : Launch} (hl : l.stackTraces = false) {z : xj_F} (B : xj_B l yJ_max prog_16_method_65_code 2 (some .int) [] 1 z) (v0 : Int32) (v1 : Int32) (A : xj_H) (h : fJ_max v0 v1 A = some (xf_r z)) : xj_W l z 0 [(0, .int v0), (1, .int v1)] [] A := by
  unfold fJ_max at h
  refine xg_iload_n (pc := 0) (i := 0) B dJ_max_0 rfl rfl ?_
  refine xg_iload_n (pc := 1) (i := 1) B dJ_max_1 rfl rfl ?_
  refine xg_icmp_lt (pc := 2) (tgt := 9) B dJ_max_2 (by decide) h (fun c2 h => ?_) (fun c2 h => ?_)
  · refine xg_iload_n (pc := 9) (i := 1) B dJ_max_9 rfl rfl ?_
    refine xg_sub (ls' := []) [] rfl ?_
    exact wJ_max_10 hl B v1 A h
  · refine xg_iload_n (pc := 5) (i := 0) B dJ_max_5 rfl rfl ?_
    refine xg_goto (pc := 6) (tgt := 10) B dJ_max_6 (by decide) ?_
    refine xg_sub (ls' := []) [] rfl ?_
    exact wJ_max_10 hl B v0 A h
theorem cJ_max {l : Launch} (hl : l.stackTraces = false) (v0 : Int32) (v1 : Int32) (A : xj_H) (r : xj_R) (h : fJ_max v0 v1 A = some r) : xj_M l yJ_max prog_16_method_65_code 2 (some .int) [] 1 [.int v0, .int v1] A r := by
  refine xj_M.of hl (by decide +kernel) (by simp [lg_sl, xj_ic, xj_lc, xj_rv_cat]) (fun z B hA hr => ?_)
  subst hr
  have hw := wJ_max hl B v0 v1 A h
  simpa [lv_args, xj_ic, xj_lc, xj_rv_cat] using hw
/-! RecurrenceBook$Zone.isSummer(I)Z -/
def fZ_isSummer_55 (k25 : xj_Rf → Int32 → Int32 → Int32 → xj_H → Option xj_R) (v0 : xj_Rf) (v1 : Int32) (v3 : Int32) (v4 : Int32) (A : xj_H) : Option xj_R :=
  k25 v0 v1 v3 (v4 + 1) A
def fZ_isSummer_25 : Nat → xj_Rf → Int32 → Int32 → Int32 → xj_H → Option xj_R
  | 0, _, _, _, _, _ => none
  | n + 1, v0, v1, v3, v4, A =>
    if v3 < v4 then
      xj_rz (0 : Int32) A
    else
      (xj_gr A v0 1 2).bind fun x1 =>
      (xj_ai A x1 0 v4).bind fun x2 =>
      if v1 < x2 then
        fZ_isSummer_55 (fZ_isSummer_25 n) v0 v1 v3 v4 A
      else
        (xj_gr A v0 1 3).bind fun x3 =>
        (xj_ai A x3 0 v4).bind fun x4 =>
        if x4 ≤ v1 then
          fZ_isSummer_55 (fZ_isSummer_25 n) v0 v1 v3 v4 A
        else
          xj_rz (1 : Int32) A
def fZ_isSummer (v0 : xj_Rf) (v1 : Int32) (A : xj_H) : Option xj_R :=
  xj_bi (fD_yearOf (v1 / (1440 : Int32)) A) fun x1 A2 =>
  xj_bi (fJ_min (99 : Int32) (x1 + (1 : Int32)) A2) fun x3 A4 =>
  xj_bi (fJ_max (0 : Int32) x1 A4) fun x5 A6 =>
  fZ_isSummer_25 xj_fu v0 v1 x3 x5 A6
theorem wZ_isSummer_55 {l : Launch} (hl : l.stackTraces = false) {z : xj_F} (B : xj_B l yZ_isSummer prog_9_method_3_code 5 (some .boolean) [] 2 z) (k25 : xj_Rf → Int32 → Int32 → Int32 → xj_H → Option xj_R) (hk25 : ∀ (v0 : xj_Rf) (v1 : Int32) (v3 : Int32) (v4 : Int32) (A : xj_H), k25 v0 v1 v3 v4 A = some (xf_r z) → xj_W l z 25 [(0, xj_rv v0), (1, .int v1), (3, .int v3), (4, .int v4)] [] A) (v0 : xj_Rf) (v1 : Int32) (v3 : Int32) (v4 : Int32) (A : xj_H) (h : fZ_isSummer_55 k25 v0 v1 v3 v4 A = some (xf_r z)) : xj_W l z 55 [(0, xj_rv v0), (1, .int v1), (3, .int v3), (4, .int v4)] [] A := by
  unfold fZ_isSummer_55 at h
  refine xg_iinc (pc := 55) (i := 4) (v := (v4 + 1)) (ls' := [(4, .int (v4 + 1)), (0, xj_rv v0), (1, .int v1), (3, .int v3)]) B dZ_isSummer_55 rfl (xj_inc_1 _) (by decide) ⟨xj_nq (a := 0) (i := 4) (by decide), xj_nq (a := 1) (i := 4) (by decide), fun _ => rfl, xj_nq (a := 4) (i := 4) (by decide), trivial⟩ rfl ?_
  refine xg_goto (pc := 58) (tgt := 25) B dZ_isSummer_58 (by decide) ?_
  refine xg_sub (ls' := [(0, xj_rv v0), (1, .int v1), (3, .int v3), (4, .int (v4 + 1))]) [1, 2, 3, 0] rfl ?_
  exact hk25 v0 v1 v3 (v4 + 1) A h
theorem wZ_isSummer_25 {l : Launch} (hl : l.stackTraces = false) {z : xj_F} (B : xj_B l yZ_isSummer prog_9_method_3_code 5 (some .boolean) [] 2 z) : ∀ (n : Nat) (v0 : xj_Rf) (v1 : Int32) (v3 : Int32) (v4 : Int32) (A : xj_H), fZ_isSummer_25 n v0 v1 v3 v4 A = some (xf_r z) → xj_W l z 25 [(0, xj_rv v0), (1, .int v1), (3, .int v3), (4, .int v4)] [] A
  | 0, _, _, _, _, _, h => by simp [fZ_isSummer_25] at h
  | n + 1, v0, v1, v3, v4, A, h => by
    rw [fZ_isSummer_25] at h
    refine xg_iload (pc := 25) (i := 4) B dZ_isSummer_25 rfl ?_
    refine xg_iload_n (pc := 27) (i := 3) B dZ_isSummer_27 rfl rfl ?_
    refine xg_icmp_gt (pc := 28) (tgt := 61) B dZ_isSummer_28 (by decide) h (fun c28 h => ?_) (fun c28 h => ?_)
    · refine xg_iconst (pc := 61) (v := 0) B dZ_isSummer_61 (by decide) ?_
      exact xg_zret B dZ_isSummer_62 h
    · refine xg_aload_n (pc := 31) (i := 0) (r := v0) B dZ_isSummer_31 rfl rfl ?_
      refine xg_getr (pc := 32) B dZ_isSummer_32 flZ_9 h (fun x1 ex1 h => ?_)
      refine xg_iload (pc := 35) (i := 4) B dZ_isSummer_35 rfl ?_
      refine xg_iaload (pc := 37) B dZ_isSummer_37 h (fun x2 ex2 h => ?_)
      refine xg_iload_n (pc := 38) (i := 1) B dZ_isSummer_38 rfl rfl ?_
      refine xg_icmp_gt (pc := 39) (tgt := 55) B dZ_isSummer_39 (by decide) h (fun c39 h => ?_) (fun c39 h => ?_)
      · exact wZ_isSummer_55 hl B (fZ_isSummer_25 n) (wZ_isSummer_25 hl B n) v0 v1 v3 v4 A h
      · refine xg_iload_n (pc := 42) (i := 1) B dZ_isSummer_42 rfl rfl ?_
        refine xg_aload_n (pc := 43) (i := 0) (r := v0) B dZ_isSummer_43 rfl rfl ?_
        refine xg_getr (pc := 44) B dZ_isSummer_44 flZ_15 h (fun x3 ex3 h => ?_)
        refine xg_iload (pc := 47) (i := 4) B dZ_isSummer_47 rfl ?_
        refine xg_iaload (pc := 49) B dZ_isSummer_49 h (fun x4 ex4 h => ?_)
        refine xg_icmp_ge (pc := 50) (tgt := 55) B dZ_isSummer_50 (by decide) h (fun c50 h => ?_) (fun c50 h => ?_)
        · exact wZ_isSummer_55 hl B (fZ_isSummer_25 n) (wZ_isSummer_25 hl B n) v0 v1 v3 v4 A h
        · refine xg_iconst (pc := 53) (v := 1) B dZ_isSummer_53 (by decide) ?_
          exact xg_zret B dZ_isSummer_54 h
theorem wZ_isSummer {l : Launch} (hl : l.stackTraces = false) {z : xj_F} (B : xj_B l yZ_isSummer prog_9_method_3_code 5 (some .boolean) [] 2 z) (v0 : xj_Rf) (v1 : Int32) (A : xj_H) (h : fZ_isSummer v0 v1 A = some (xf_r z)) : xj_W l z 0 [(0, xj_rv v0), (1, .int v1)] [] A := by
  unfold fZ_isSummer at h
  refine xg_iload_n (pc := 0) (i := 1) B dZ_isSummer_0 rfl rfl ?_
  refine xg_sipush (pc := 1) (v := 1440) B dZ_isSummer_1 (by decide) ?_
  refine xg_idiv (pc := 4) B dZ_isSummer_4 (by decide) ?_
  refine xg_ci (pc := 5) (av := [.int (v1 / (1440 : Int32))]) (st := []) (cy := prog_2_method_3_code) (nLy := 1) (rety := (some .int)) (hsy := []) B dZ_isSummer_5 (xj_go_s B dZ_isSummer_5 swZ_31 rfl) swZ_31.2.2.1 swZ_31.2.2.2.1 (by decide) (by decide) (by decide) rfl (fun r9 h9 => cD_yearOf hl _ _ r9 h9) h (fun x1 A2 eA2 h => ?_)
  refine xg_istore_n (pc := 8) (i := 2) (ls' := [(2, .int x1), (0, xj_rv v0), (1, .int v1)]) B dZ_isSummer_8 rfl (by decide) ⟨xj_nq (a := 0) (i := 2) (by decide), fun _ => rfl, trivial⟩ rfl ?_
  refine xg_bipush (pc := 9) (v := 99) B dZ_isSummer_9 (by decide) ?_
  refine xg_iload_n (pc := 11) (i := 2) B dZ_isSummer_11 rfl rfl ?_
  refine xg_iconst (pc := 12) (v := 1) B dZ_isSummer_12 (by decide) ?_
  refine xg_iadd (pc := 13) B dZ_isSummer_13 ?_
  refine xg_ci (pc := 14) (av := [.int (99 : Int32), .int (x1 + (1 : Int32))]) (st := []) (cy := prog_16_method_69_code) (nLy := 2) (rety := (some .int)) (hsy := []) B dZ_isSummer_14 (xj_go_s B dZ_isSummer_14 swZ_35 rfl) swZ_35.2.2.1 swZ_35.2.2.2.1 (by decide) (by decide) (by decide) rfl (fun r9 h9 => cJ_min hl _ _ _ r9 h9) h (fun x3 A4 eA4 h => ?_)
  refine xg_istore_n (pc := 17) (i := 3) (ls' := [(3, .int x3), (2, .int x1), (0, xj_rv v0), (1, .int v1)]) B dZ_isSummer_17 rfl (by decide) ⟨fun _ => rfl, xj_nq (a := 0) (i := 3) (by decide), xj_nq (a := 1) (i := 3) (by decide), trivial⟩ rfl ?_
  refine xg_iconst (pc := 18) (v := 0) B dZ_isSummer_18 (by decide) ?_
  refine xg_iload_n (pc := 19) (i := 2) B dZ_isSummer_19 rfl rfl ?_
  refine xg_ci (pc := 20) (av := [.int (0 : Int32), .int x1]) (st := []) (cy := prog_16_method_65_code) (nLy := 2) (rety := (some .int)) (hsy := []) B dZ_isSummer_20 (xj_go_s B dZ_isSummer_20 swZ_40 rfl) swZ_40.2.2.1 swZ_40.2.2.2.1 (by decide) (by decide) (by decide) rfl (fun r9 h9 => cJ_max hl _ _ _ r9 h9) h (fun x5 A6 eA6 h => ?_)
  refine xg_istore (pc := 23) (i := 4) (ls' := [(4, .int x5), (3, .int x3), (2, .int x1), (0, xj_rv v0), (1, .int v1)]) B dZ_isSummer_23 (by decide) ⟨fun _ => rfl, xj_nq (a := 2) (i := 4) (by decide), xj_nq (a := 0) (i := 4) (by decide), xj_nq (a := 1) (i := 4) (by decide), trivial⟩ rfl ?_
  refine xg_sub (ls' := [(0, xj_rv v0), (1, .int v1), (3, .int x3), (4, .int x5)]) [3, 4, 1, 0] rfl ?_
  exact wZ_isSummer_25 hl B xj_fu v0 v1 x3 x5 A6 h
theorem cZ_isSummer {l : Launch} (hl : l.stackTraces = false) (v0 : xj_Rf) (v1 : Int32) (A : xj_H) (r : xj_R) (h : fZ_isSummer v0 v1 A = some r) : xj_M l yZ_isSummer prog_9_method_3_code 5 (some .boolean) [] 2 [xj_rv v0, .int v1] A r := by
  refine xj_M.of hl (by decide +kernel) (by simp [lg_sl, xj_ic, xj_lc, xj_rv_cat]) (fun z B hA hr => ?_)
  subst hr
  have hw := wZ_isSummer hl B v0 v1 A h
  simpa [lv_args, xj_ic, xj_lc, xj_rv_cat] using hw
/-! RecurrenceBook$Zone.momentOf(I)I -/
def fZ_momentOf_28 (s0 : Int32) (A : xj_H) : Option xj_R :=
  some (.inl (some (.int s0)), A)
def fZ_momentOf (v0 : xj_Rf) (v1 : Int32) (A : xj_H) : Option xj_R :=
  (xj_gi A v0 1 1).bind fun x1 =>
  xj_bi (xj_rq A v0 1 (fZ_isSummer v0 (v1 - x1) A)) fun x2 A3 =>
  if x2 = 0 then
    (xj_gi A3 v0 1 0).bind fun x4 =>
    fZ_momentOf_28 (v1 - x4) A3
  else
    (xj_gi A3 v0 1 1).bind fun x5 =>
    fZ_momentOf_28 (v1 - x5) A3
theorem wZ_momentOf_28 {l : Launch} (hl : l.stackTraces = false) {z : xj_F} (B : xj_B l yZ_momentOf prog_9_method_5_code 2 (some .int) [] 3 z) (s0 : Int32) (A : xj_H) (h : fZ_momentOf_28 s0 A = some (xf_r z)) : xj_W l z 28 [] [.int s0] A := by
  unfold fZ_momentOf_28 at h
  exact xg_iret B dZ_momentOf_28 h
theorem wZ_momentOf {l : Launch} (hl : l.stackTraces = false) {z : xj_F} (B : xj_B l yZ_momentOf prog_9_method_5_code 2 (some .int) [] 3 z) (v0 : xj_Rf) (v1 : Int32) (A : xj_H) (h : fZ_momentOf v0 v1 A = some (xf_r z)) : xj_W l z 0 [(0, xj_rv v0), (1, .int v1)] [] A := by
  unfold fZ_momentOf at h
  refine xg_aload_n (pc := 0) (i := 0) (r := v0) B dZ_momentOf_0 rfl rfl ?_
  refine xg_iload_n (pc := 1) (i := 1) B dZ_momentOf_1 rfl rfl ?_
  refine xg_aload_n (pc := 2) (i := 0) (r := v0) B dZ_momentOf_2 rfl rfl ?_
  refine xg_geti (pc := 3) B dZ_momentOf_3 flZ_22 h (fun x1 ex1 h => ?_)
  refine xg_isub (pc := 6) B dZ_momentOf_6 ?_
  obtain ⟨hq7, h⟩ := xj_rq_i h
  refine xg_ci (pc := 7) (av := [xj_rv v0, .int (v1 - x1)]) (st := []) (cy := prog_9_method_3_code) (nLy := 5) (rety := (some .boolean)) (hsy := []) B dZ_momentOf_7 (xj_go_v B dZ_momentOf_7 vwZ_43 rfl hq7) (xj_vw_c vwZ_43) (xj_vw_i vwZ_43) (by decide) (by decide) (by decide) rfl (fun r9 h9 => cZ_isSummer hl _ _ _ r9 h9) h (fun x2 A3 eA3 h => ?_)
  refine xg_if_eq (pc := 10) (tgt := 22) B dZ_momentOf_10 (by decide) h (fun c10 h => ?_) (fun c10 h => ?_)
  · refine xg_iload_n (pc := 22) (i := 1) B dZ_momentOf_22 rfl rfl ?_
    refine xg_aload_n (pc := 23) (i := 0) (r := v0) B dZ_momentOf_23 rfl rfl ?_
    refine xg_geti (pc := 24) B dZ_momentOf_24 flZ_18 h (fun x4 ex4 h => ?_)
    refine xg_isub (pc := 27) B dZ_momentOf_27 ?_
    refine xg_sub (ls' := []) [] rfl ?_
    exact wZ_momentOf_28 hl B (v1 - x4) A3 h
  · refine xg_iload_n (pc := 13) (i := 1) B dZ_momentOf_13 rfl rfl ?_
    refine xg_aload_n (pc := 14) (i := 0) (r := v0) B dZ_momentOf_14 rfl rfl ?_
    refine xg_geti (pc := 15) B dZ_momentOf_15 flZ_22 h (fun x5 ex5 h => ?_)
    refine xg_isub (pc := 18) B dZ_momentOf_18 ?_
    refine xg_goto (pc := 19) (tgt := 28) B dZ_momentOf_19 (by decide) ?_
    refine xg_sub (ls' := []) [] rfl ?_
    exact wZ_momentOf_28 hl B (v1 - x5) A3 h
theorem cZ_momentOf {l : Launch} (hl : l.stackTraces = false) (v0 : xj_Rf) (v1 : Int32) (A : xj_H) (r : xj_R) (h : fZ_momentOf v0 v1 A = some r) : xj_M l yZ_momentOf prog_9_method_5_code 2 (some .int) [] 3 [xj_rv v0, .int v1] A r := by
  refine xj_M.of hl (by decide +kernel) (by simp [lg_sl, xj_ic, xj_lc, xj_rv_cat]) (fun z B hA hr => ?_)
  subst hr
  have hw := wZ_momentOf hl B v0 v1 A h
  simpa [lv_args, xj_ic, xj_lc, xj_rv_cat] using hw
/-! RecurrenceBook$Event.settle(LRecurrenceBook$Zone;)V -/
def fE_settle_73 (k2 : xj_Rf → xj_Rf → Int32 → xj_H → Option xj_R) (v0 : xj_Rf) (v1 : xj_Rf) (v2 : Int32) (v3 : Int32) (v4 : Int32) (A : xj_H) : Option xj_R :=
  (xj_gr A v0 2 1).bind fun x1 =>
  (xj_as A x1 0 v4 v3).bind fun A2 =>
  k2 v0 v1 (v2 + 1) A2
def fE_settle_33 (k2 : xj_Rf → xj_Rf → Int32 → xj_H → Option xj_R) : Nat → xj_Rf → xj_Rf → Int32 → Int32 → Int32 → xj_H → Option xj_R
  | 0, _, _, _, _, _, _ => none
  | n + 1, v0, v1, v2, v3, v4, A =>
    if v4 ≤ 0 then
      fE_settle_73 k2 v0 v1 v2 v3 v4 A
    else
      (xj_gr A v0 2 1).bind fun x1 =>
      (xj_ai A x1 0 (v4 - (1 : Int32))).bind fun x2 =>
      if x2 ≤ v3 then
        fE_settle_73 k2 v0 v1 v2 v3 v4 A
      else
        (xj_gr A v0 2 1).bind fun x3 =>
        (xj_gr A v0 2 1).bind fun x4 =>
        (xj_ai A x4 0 (v4 - (1 : Int32))).bind fun x5 =>
        (xj_as A x3 0 v4 x5).bind fun A6 =>
        (fE_settle_33 k2 n) v0 v1 v2 v3 (v4 - 1) A6
def fE_settle_2 : Nat → xj_Rf → xj_Rf → Int32 → xj_H → Option xj_R
  | 0, _, _, _, _ => none
  | n + 1, v0, v1, v2, A =>
    (xj_gi A v0 2 2).bind fun x1 =>
    if x1 ≤ v2 then
      some (.inl none, A)
    else
      (xj_gr A v0 2 0).bind fun x2 =>
      (xj_ai A x2 0 v2).bind fun x3 =>
      (xj_gi A v0 2 4).bind fun x4 =>
      xj_bi (xj_rq A v1 1 (fZ_momentOf v1 (((1440 : Int32) * x3) + x4) A)) fun x5 A6 =>
      fE_settle_33 (fE_settle_2 n) xj_fu v0 v1 v2 x5 v2 A6
def fE_settle (v0 : xj_Rf) (v1 : xj_Rf) (A : xj_H) : Option xj_R :=
  fE_settle_2 xj_fu v0 v1 (0 : Int32) A
theorem wE_settle_73 {l : Launch} (hl : l.stackTraces = false) {z : xj_F} (B : xj_B l yE_settle prog_3_method_4_code 5 none [] 4 z) (k2 : xj_Rf → xj_Rf → Int32 → xj_H → Option xj_R) (hk2 : ∀ (v0 : xj_Rf) (v1 : xj_Rf) (v2 : Int32) (A : xj_H), k2 v0 v1 v2 A = some (xf_r z) → xj_W l z 2 [(0, xj_rv v0), (1, xj_rv v1), (2, .int v2)] [] A) (v0 : xj_Rf) (v1 : xj_Rf) (v2 : Int32) (v3 : Int32) (v4 : Int32) (A : xj_H) (h : fE_settle_73 k2 v0 v1 v2 v3 v4 A = some (xf_r z)) : xj_W l z 73 [(0, xj_rv v0), (1, xj_rv v1), (2, .int v2), (3, .int v3), (4, .int v4)] [] A := by
  unfold fE_settle_73 at h
  refine xg_aload_n (pc := 73) (i := 0) (r := v0) B dE_settle_73 rfl rfl ?_
  refine xg_getr (pc := 74) B dE_settle_74 flE_15 h (fun x1 ex1 h => ?_)
  refine xg_iload (pc := 77) (i := 4) B dE_settle_77 rfl ?_
  refine xg_iload_n (pc := 79) (i := 3) B dE_settle_79 rfl rfl ?_
  refine xg_iastore (pc := 80) B dE_settle_80 h (fun A2 eA2 h => ?_)
  refine xg_iinc (pc := 81) (i := 2) (v := (v2 + 1)) (ls' := [(2, .int (v2 + 1)), (0, xj_rv v0), (1, xj_rv v1), (3, .int v3), (4, .int v4)]) B dE_settle_81 rfl (xj_inc_1 _) (by decide) ⟨xj_nq (a := 0) (i := 2) (by decide), fun _ => xj_rv_cat v1, xj_nq (a := 2) (i := 2) (by decide), xj_nq (a := 3) (i := 2) (by decide), xj_nq (a := 4) (i := 2) (by decide), trivial⟩ rfl ?_
  refine xg_goto (pc := 84) (tgt := 2) B dE_settle_84 (by decide) ?_
  refine xg_sub (ls' := [(0, xj_rv v0), (1, xj_rv v1), (2, .int (v2 + 1))]) [1, 2, 0] rfl ?_
  exact hk2 v0 v1 (v2 + 1) A2 h
theorem wE_settle_33 {l : Launch} (hl : l.stackTraces = false) {z : xj_F} (B : xj_B l yE_settle prog_3_method_4_code 5 none [] 4 z) (k2 : xj_Rf → xj_Rf → Int32 → xj_H → Option xj_R) (hk2 : ∀ (v0 : xj_Rf) (v1 : xj_Rf) (v2 : Int32) (A : xj_H), k2 v0 v1 v2 A = some (xf_r z) → xj_W l z 2 [(0, xj_rv v0), (1, xj_rv v1), (2, .int v2)] [] A) : ∀ (n : Nat) (v0 : xj_Rf) (v1 : xj_Rf) (v2 : Int32) (v3 : Int32) (v4 : Int32) (A : xj_H), fE_settle_33 k2 n v0 v1 v2 v3 v4 A = some (xf_r z) → xj_W l z 33 [(0, xj_rv v0), (1, xj_rv v1), (2, .int v2), (3, .int v3), (4, .int v4)] [] A
  | 0, _, _, _, _, _, _, h => by simp [fE_settle_33] at h
  | n + 1, v0, v1, v2, v3, v4, A, h => by
    rw [fE_settle_33] at h
    refine xg_iload (pc := 33) (i := 4) B dE_settle_33 rfl ?_
    refine xg_if_le (pc := 35) (tgt := 73) B dE_settle_35 (by decide) h (fun c35 h => ?_) (fun c35 h => ?_)
    · exact wE_settle_73 hl B k2 hk2 v0 v1 v2 v3 v4 A h
    · refine xg_aload_n (pc := 38) (i := 0) (r := v0) B dE_settle_38 rfl rfl ?_
      refine xg_getr (pc := 39) B dE_settle_39 flE_15 h (fun x1 ex1 h => ?_)
      refine xg_iload (pc := 42) (i := 4) B dE_settle_42 rfl ?_
      refine xg_iconst (pc := 44) (v := 1) B dE_settle_44 (by decide) ?_
      refine xg_isub (pc := 45) B dE_settle_45 ?_
      refine xg_iaload (pc := 46) B dE_settle_46 h (fun x2 ex2 h => ?_)
      refine xg_iload_n (pc := 47) (i := 3) B dE_settle_47 rfl rfl ?_
      refine xg_icmp_le (pc := 48) (tgt := 73) B dE_settle_48 (by decide) h (fun c48 h => ?_) (fun c48 h => ?_)
      · exact wE_settle_73 hl B k2 hk2 v0 v1 v2 v3 v4 A h
      · refine xg_aload_n (pc := 51) (i := 0) (r := v0) B dE_settle_51 rfl rfl ?_
        refine xg_getr (pc := 52) B dE_settle_52 flE_15 h (fun x3 ex3 h => ?_)
        refine xg_iload (pc := 55) (i := 4) B dE_settle_55 rfl ?_
        refine xg_aload_n (pc := 57) (i := 0) (r := v0) B dE_settle_57 rfl rfl ?_
        refine xg_getr (pc := 58) B dE_settle_58 flE_15 h (fun x4 ex4 h => ?_)
        refine xg_iload (pc := 61) (i := 4) B dE_settle_61 rfl ?_
        refine xg_iconst (pc := 63) (v := 1) B dE_settle_63 (by decide) ?_
        refine xg_isub (pc := 64) B dE_settle_64 ?_
        refine xg_iaload (pc := 65) B dE_settle_65 h (fun x5 ex5 h => ?_)
        refine xg_iastore (pc := 66) B dE_settle_66 h (fun A6 eA6 h => ?_)
        refine xg_iinc (pc := 67) (i := 4) (v := (v4 - 1)) (ls' := [(4, .int (v4 - 1)), (0, xj_rv v0), (1, xj_rv v1), (2, .int v2), (3, .int v3)]) B dE_settle_67 rfl (xj_inc_m1 _) (by decide) ⟨xj_nq (a := 0) (i := 4) (by decide), xj_nq (a := 1) (i := 4) (by decide), xj_nq (a := 2) (i := 4) (by decide), fun _ => rfl, xj_nq (a := 4) (i := 4) (by decide), trivial⟩ rfl ?_
        refine xg_goto (pc := 70) (tgt := 33) B dE_settle_70 (by decide) ?_
        refine xg_sub (ls' := [(0, xj_rv v0), (1, xj_rv v1), (2, .int v2), (3, .int v3), (4, .int (v4 - 1))]) [1, 2, 3, 4, 0] rfl ?_
        exact (wE_settle_33 hl B k2 hk2 n) v0 v1 v2 v3 (v4 - 1) A6 h
theorem wE_settle_2 {l : Launch} (hl : l.stackTraces = false) {z : xj_F} (B : xj_B l yE_settle prog_3_method_4_code 5 none [] 4 z) : ∀ (n : Nat) (v0 : xj_Rf) (v1 : xj_Rf) (v2 : Int32) (A : xj_H), fE_settle_2 n v0 v1 v2 A = some (xf_r z) → xj_W l z 2 [(0, xj_rv v0), (1, xj_rv v1), (2, .int v2)] [] A
  | 0, _, _, _, _, h => by simp [fE_settle_2] at h
  | n + 1, v0, v1, v2, A, h => by
    rw [fE_settle_2] at h
    refine xg_iload_n (pc := 2) (i := 2) B dE_settle_2 rfl rfl ?_
    refine xg_aload_n (pc := 3) (i := 0) (r := v0) B dE_settle_3 rfl rfl ?_
    refine xg_geti (pc := 4) B dE_settle_4 flE_25 h (fun x1 ex1 h => ?_)
    refine xg_icmp_ge (pc := 7) (tgt := 87) B dE_settle_7 (by decide) h (fun c7 h => ?_) (fun c7 h => ?_)
    · exact xg_vret B dE_settle_87 h
    · refine xg_aload_n (pc := 10) (i := 1) (r := v1) B dE_settle_10 rfl rfl ?_
      refine xg_sipush (pc := 11) (v := 1440) B dE_settle_11 (by decide) ?_
      refine xg_aload_n (pc := 14) (i := 0) (r := v0) B dE_settle_14 rfl rfl ?_
      refine xg_getr (pc := 15) B dE_settle_15 flE_9 h (fun x2 ex2 h => ?_)
      refine xg_iload_n (pc := 18) (i := 2) B dE_settle_18 rfl rfl ?_
      refine xg_iaload (pc := 19) B dE_settle_19 h (fun x3 ex3 h => ?_)
      refine xg_imul (pc := 20) B dE_settle_20 ?_
      refine xg_aload_n (pc := 21) (i := 0) (r := v0) B dE_settle_21 rfl rfl ?_
      refine xg_geti (pc := 22) B dE_settle_22 flE_18 h (fun x4 ex4 h => ?_)
      refine xg_iadd (pc := 25) B dE_settle_25 ?_
      obtain ⟨hq26, h⟩ := xj_rq_i h
      refine xg_ci (pc := 26) (av := [xj_rv v1, .int (((1440 : Int32) * x3) + x4)]) (st := []) (cy := prog_9_method_5_code) (nLy := 2) (rety := (some .int)) (hsy := []) B dE_settle_26 (xj_go_v B dE_settle_26 vwE_31 rfl hq26) (xj_vw_c vwE_31) (xj_vw_i vwE_31) (by decide) (by decide) (by decide) rfl (fun r9 h9 => cZ_momentOf hl _ _ _ r9 h9) h (fun x5 A6 eA6 h => ?_)
      refine xg_istore_n (pc := 29) (i := 3) (ls' := [(3, .int x5), (0, xj_rv v0), (1, xj_rv v1), (2, .int v2)]) B dE_settle_29 rfl (by decide) ⟨xj_nq (a := 0) (i := 3) (by decide), xj_nq (a := 1) (i := 3) (by decide), fun _ => rfl, trivial⟩ rfl ?_
      refine xg_iload_n (pc := 30) (i := 2) B dE_settle_30 rfl rfl ?_
      refine xg_istore (pc := 31) (i := 4) (ls' := [(4, .int v2), (3, .int x5), (0, xj_rv v0), (1, xj_rv v1), (2, .int v2)]) B dE_settle_31 (by decide) ⟨fun _ => rfl, xj_nq (a := 0) (i := 4) (by decide), xj_nq (a := 1) (i := 4) (by decide), xj_nq (a := 2) (i := 4) (by decide), trivial⟩ rfl ?_
      refine xg_sub (ls' := [(0, xj_rv v0), (1, xj_rv v1), (2, .int v2), (3, .int x5), (4, .int v2)]) [2, 3, 4, 1, 0] rfl ?_
      exact wE_settle_33 hl B (fE_settle_2 n) (wE_settle_2 hl B n) xj_fu v0 v1 v2 x5 v2 A6 h
theorem wE_settle {l : Launch} (hl : l.stackTraces = false) {z : xj_F} (B : xj_B l yE_settle prog_3_method_4_code 5 none [] 4 z) (v0 : xj_Rf) (v1 : xj_Rf) (A : xj_H) (h : fE_settle v0 v1 A = some (xf_r z)) : xj_W l z 0 [(0, xj_rv v0), (1, xj_rv v1)] [] A := by
  unfold fE_settle at h
  refine xg_iconst (pc := 0) (v := 0) B dE_settle_0 (by decide) ?_
  refine xg_istore_n (pc := 1) (i := 2) (ls' := [(2, .int (0 : Int32)), (0, xj_rv v0), (1, xj_rv v1)]) B dE_settle_1 rfl (by decide) ⟨xj_nq (a := 0) (i := 2) (by decide), fun _ => xj_rv_cat v1, trivial⟩ rfl ?_
  refine xg_sub (ls' := [(0, xj_rv v0), (1, xj_rv v1), (2, .int (0 : Int32))]) [1, 2, 0] rfl ?_
  exact wE_settle_2 hl B xj_fu v0 v1 (0 : Int32) A h
theorem cE_settle {l : Launch} (hl : l.stackTraces = false) (v0 : xj_Rf) (v1 : xj_Rf) (A : xj_H) (r : xj_R) (h : fE_settle v0 v1 A = some r) : xj_M l yE_settle prog_3_method_4_code 5 none [] 4 [xj_rv v0, xj_rv v1] A r := by
  refine xj_M.of hl (by decide +kernel) (by simp [lg_sl, xj_ic, xj_lc, xj_rv_cat]) (fun z B hA hr => ?_)
  subst hr
  have hw := wE_settle hl B v0 v1 A h
  simpa [lv_args, xj_ic, xj_lc, xj_rv_cat] using hw

/-! RecurrenceBook$Unfolding.addMonths()V -/
def fU_addMonths_38 (A : xj_H) : Option xj_R :=
  some (.inl none, A)
def fU_addMonths_5 : Nat → xj_Rf → Int32 → xj_H → Option xj_R
  | 0, _, _, _ => none
  | n + 1, v0, v1, A =>
    if (1200 : Int32) ≤ v1 then
      fU_addMonths_38  A
    else
      (xj_gi A v0 6 8).bind fun x1 =>
      (xj_gi A v0 6 6).bind fun x2 =>
      if x2 ≤ x1 then
        fU_addMonths_38  A
      else
        xj_bv (xj_rq A v0 6 (fU_addMonth v0 v1 A)) fun A3 =>
        (xj_gi A3 v0 6 5).bind fun x4 =>
        (fU_addMonths_5 n) v0 (v1 + x4) A3
def fU_addMonths (v0 : xj_Rf) (A : xj_H) : Option xj_R :=
  (xj_gi A v0 6 2).bind fun x1 =>
  fU_addMonths_5 xj_fu v0 x1 A
theorem wU_addMonths_38 {l : Launch} (hl : l.stackTraces = false) {z : xj_F} (B : xj_B l yU_addMonths prog_8_method_5_code 2 none [] 5 z) (A : xj_H) (h : fU_addMonths_38  A = some (xf_r z)) : xj_W l z 38 [] [] A := by
  unfold fU_addMonths_38 at h
  exact xg_vret B dU_addMonths_38 h
theorem wU_addMonths_5 {l : Launch} (hl : l.stackTraces = false) {z : xj_F} (B : xj_B l yU_addMonths prog_8_method_5_code 2 none [] 5 z) : ∀ (n : Nat) (v0 : xj_Rf) (v1 : Int32) (A : xj_H), fU_addMonths_5 n v0 v1 A = some (xf_r z) → xj_W l z 5 [(0, xj_rv v0), (1, .int v1)] [] A
  | 0, _, _, _, h => by simp [fU_addMonths_5] at h
  | n + 1, v0, v1, A, h => by
    rw [fU_addMonths_5] at h
    refine xg_iload_n (pc := 5) (i := 1) B dU_addMonths_5 rfl rfl ?_
    refine xg_sipush (pc := 6) (v := 1200) B dU_addMonths_6 (by decide) ?_
    refine xg_icmp_ge (pc := 9) (tgt := 38) B dU_addMonths_9 (by decide) h (fun c9 h => ?_) (fun c9 h => ?_)
    · refine xg_sub (ls' := []) [] rfl ?_
      exact wU_addMonths_38 hl B  A h
    · refine xg_aload_n (pc := 12) (i := 0) (r := v0) B dU_addMonths_12 rfl rfl ?_
      refine xg_geti (pc := 13) B dU_addMonths_13 flU_65 h (fun x1 ex1 h => ?_)
      refine xg_aload_n (pc := 16) (i := 0) (r := v0) B dU_addMonths_16 rfl rfl ?_
      refine xg_geti (pc := 17) B dU_addMonths_17 flU_62 h (fun x2 ex2 h => ?_)
      refine xg_icmp_ge (pc := 20) (tgt := 38) B dU_addMonths_20 (by decide) h (fun c20 h => ?_) (fun c20 h => ?_)
      · refine xg_sub (ls' := []) [] rfl ?_
        exact wU_addMonths_38 hl B  A h
      · refine xg_aload_n (pc := 23) (i := 0) (r := v0) B dU_addMonths_23 rfl rfl ?_
        refine xg_iload_n (pc := 24) (i := 1) B dU_addMonths_24 rfl rfl ?_
        obtain ⟨hq25, h⟩ := xj_rq_v h
        refine xg_cv (pc := 25) (av := [xj_rv v0, .int v1]) (st := []) (cy := prog_8_method_7_code) (nLy := 5) (rety := none) (hsy := []) B dU_addMonths_25 (xj_go_v B dU_addMonths_25 vwU_117 rfl hq25) (xj_vw_c vwU_117) (xj_vw_i vwU_117) (by decide) (by decide) (by decide) rfl (fun r9 h9 => cU_addMonth hl _ _ _ r9 h9) h (fun A3 eA3 h => ?_)
        refine xg_iload_n (pc := 28) (i := 1) B dU_addMonths_28 rfl rfl ?_
        refine xg_aload_n (pc := 29) (i := 0) (r := v0) B dU_addMonths_29 rfl rfl ?_
        refine xg_geti (pc := 30) B dU_addMonths_30 flU_55 h (fun x4 ex4 h => ?_)
        refine xg_iadd (pc := 33) B dU_addMonths_33 ?_
        refine xg_istore_n (pc := 34) (i := 1) (ls' := [(1, .int (v1 + x4)), (0, xj_rv v0)]) B dU_addMonths_34 rfl (by decide) ⟨fun _ => xj_rv_cat v0, xj_nq (a := 1) (i := 1) (by decide), trivial⟩ rfl ?_
        refine xg_goto (pc := 35) (tgt := 5) B dU_addMonths_35 (by decide) ?_
        refine xg_sub (ls' := [(0, xj_rv v0), (1, .int (v1 + x4))]) [1, 0] rfl ?_
        exact (wU_addMonths_5 hl B n) v0 (v1 + x4) A3 h
theorem wU_addMonths {l : Launch} (hl : l.stackTraces = false) {z : xj_F} (B : xj_B l yU_addMonths prog_8_method_5_code 2 none [] 5 z) (v0 : xj_Rf) (A : xj_H) (h : fU_addMonths v0 A = some (xf_r z)) : xj_W l z 0 [(0, xj_rv v0)] [] A := by
  unfold fU_addMonths at h
  refine xg_aload_n (pc := 0) (i := 0) (r := v0) B dU_addMonths_0 rfl rfl ?_
  refine xg_geti (pc := 1) B dU_addMonths_1 flU_29 h (fun x1 ex1 h => ?_)
  refine xg_istore_n (pc := 4) (i := 1) (ls' := [(1, .int x1), (0, xj_rv v0)]) B dU_addMonths_4 rfl (by decide) ⟨fun _ => xj_rv_cat v0, trivial⟩ rfl ?_
  refine xg_sub (ls' := [(0, xj_rv v0), (1, .int x1)]) [1, 0] rfl ?_
  exact wU_addMonths_5 hl B xj_fu v0 x1 A h
theorem cU_addMonths {l : Launch} (hl : l.stackTraces = false) (v0 : xj_Rf) (A : xj_H) (r : xj_R) (h : fU_addMonths v0 A = some r) : xj_M l yU_addMonths prog_8_method_5_code 2 none [] 5 [xj_rv v0] A r := by
  refine xj_M.of hl (by decide +kernel) (by simp [lg_sl, xj_ic, xj_lc, xj_rv_cat]) (fun z B hA hr => ?_)
  subst hr
  have hw := wU_addMonths hl B v0 A h
  simpa [lv_args, xj_ic, xj_lc, xj_rv_cat] using hw
/-! RecurrenceBook$Unfolding.addYears()V -/
def fU_addYears_82 (A : xj_H) : Option xj_R :=
  some (.inl none, A)
def fU_addYears_63 (k15 : xj_Rf → Int32 → Int32 → xj_H → Option xj_R) (k35 : xj_Rf → Int32 → Int32 → Int32 → xj_H → Option xj_R) (v0 : xj_Rf) (v1 : Int32) (v2 : Int32) (v3 : Int32) (A : xj_H) : Option xj_R :=
  k35 v0 v1 v2 (v3 + 1) A
def fU_addYears_56 (k15 : xj_Rf → Int32 → Int32 → xj_H → Option xj_R) (k35 : xj_Rf → Int32 → Int32 → Int32 → xj_H → Option xj_R) (v0 : xj_Rf) (v1 : Int32) (v2 : Int32) (v3 : Int32) (A : xj_H) : Option xj_R :=
  xj_bv (xj_rq A v0 6 (fU_addMonth v0 (v2 + v3) A)) fun A1 =>
  fU_addYears_63 k15 k35 v0 v1 v2 v3 A1
def fU_addYears_35 (k15 : xj_Rf → Int32 → Int32 → xj_H → Option xj_R) : Nat → xj_Rf → Int32 → Int32 → Int32 → xj_H → Option xj_R
  | 0, _, _, _, _, _ => none
  | n + 1, v0, v1, v2, v3, A =>
    if (12 : Int32) ≤ v3 then
      (xj_gi A v0 6 5).bind fun x1 =>
      k15 v0 v1 (v2 + ((12 : Int32) * x1)) A
    else
      (xj_gr A v0 6 0).bind fun x2 =>
      (xj_gi A x2 4 5).bind fun x3 =>
      if ¬ x3 = 0 then
        fU_addYears_56 k15 (fU_addYears_35 k15 n) v0 v1 v2 v3 A
      else
        if ¬ v3 = v1 then
          fU_addYears_63 k15 (fU_addYears_35 k15 n) v0 v1 v2 v3 A
        else
          fU_addYears_56 k15 (fU_addYears_35 k15 n) v0 v1 v2 v3 A
def fU_addYears_15 : Nat → xj_Rf → Int32 → Int32 → xj_H → Option xj_R
  | 0, _, _, _, _ => none
  | n + 1, v0, v1, v2, A =>
    if (1200 : Int32) ≤ v2 then
      fU_addYears_82  A
    else
      (xj_gi A v0 6 8).bind fun x1 =>
      (xj_gi A v0 6 6).bind fun x2 =>
      if x2 ≤ x1 then
        fU_addYears_82  A
      else
        fU_addYears_35 (fU_addYears_15 n) xj_fu v0 v1 v2 (0 : Int32) A
def fU_addYears (v0 : xj_Rf) (A : xj_H) : Option xj_R :=
  (xj_gi A v0 6 2).bind fun x1 =>
  (xj_gi A v0 6 2).bind fun x2 =>
  fU_addYears_15 xj_fu v0 (x1 % (12 : Int32)) (x2 - (x1 % (12 : Int32))) A
theorem wU_addYears_82 {l : Launch} (hl : l.stackTraces = false) {z : xj_F} (B : xj_B l yU_addYears prog_8_method_6_code 4 none [] 5 z) (A : xj_H) (h : fU_addYears_82  A = some (xf_r z)) : xj_W l z 82 [] [] A := by
  unfold fU_addYears_82 at h
  exact xg_vret B dU_addYears_82 h
theorem wU_addYears_63 {l : Launch} (hl : l.stackTraces = false) {z : xj_F} (B : xj_B l yU_addYears prog_8_method_6_code 4 none [] 5 z) (k15 : xj_Rf → Int32 → Int32 → xj_H → Option xj_R) (hk15 : ∀ (v0 : xj_Rf) (v1 : Int32) (v2 : Int32) (A : xj_H), k15 v0 v1 v2 A = some (xf_r z) → xj_W l z 15 [(0, xj_rv v0), (1, .int v1), (2, .int v2)] [] A) (k35 : xj_Rf → Int32 → Int32 → Int32 → xj_H → Option xj_R) (hk35 : ∀ (v0 : xj_Rf) (v1 : Int32) (v2 : Int32) (v3 : Int32) (A : xj_H), k35 v0 v1 v2 v3 A = some (xf_r z) → xj_W l z 35 [(0, xj_rv v0), (1, .int v1), (2, .int v2), (3, .int v3)] [] A) (v0 : xj_Rf) (v1 : Int32) (v2 : Int32) (v3 : Int32) (A : xj_H) (h : fU_addYears_63 k15 k35 v0 v1 v2 v3 A = some (xf_r z)) : xj_W l z 63 [(0, xj_rv v0), (1, .int v1), (2, .int v2), (3, .int v3)] [] A := by
  unfold fU_addYears_63 at h
  refine xg_iinc (pc := 63) (i := 3) (v := (v3 + 1)) (ls' := [(3, .int (v3 + 1)), (0, xj_rv v0), (1, .int v1), (2, .int v2)]) B dU_addYears_63 rfl (xj_inc_1 _) (by decide) ⟨xj_nq (a := 0) (i := 3) (by decide), xj_nq (a := 1) (i := 3) (by decide), fun _ => rfl, xj_nq (a := 3) (i := 3) (by decide), trivial⟩ rfl ?_
  refine xg_goto (pc := 66) (tgt := 35) B dU_addYears_66 (by decide) ?_
  refine xg_sub (ls' := [(0, xj_rv v0), (1, .int v1), (2, .int v2), (3, .int (v3 + 1))]) [1, 2, 3, 0] rfl ?_
  exact hk35 v0 v1 v2 (v3 + 1) A h
theorem wU_addYears_56 {l : Launch} (hl : l.stackTraces = false) {z : xj_F} (B : xj_B l yU_addYears prog_8_method_6_code 4 none [] 5 z) (k15 : xj_Rf → Int32 → Int32 → xj_H → Option xj_R) (hk15 : ∀ (v0 : xj_Rf) (v1 : Int32) (v2 : Int32) (A : xj_H), k15 v0 v1 v2 A = some (xf_r z) → xj_W l z 15 [(0, xj_rv v0), (1, .int v1), (2, .int v2)] [] A) (k35 : xj_Rf → Int32 → Int32 → Int32 → xj_H → Option xj_R) (hk35 : ∀ (v0 : xj_Rf) (v1 : Int32) (v2 : Int32) (v3 : Int32) (A : xj_H), k35 v0 v1 v2 v3 A = some (xf_r z) → xj_W l z 35 [(0, xj_rv v0), (1, .int v1), (2, .int v2), (3, .int v3)] [] A) (v0 : xj_Rf) (v1 : Int32) (v2 : Int32) (v3 : Int32) (A : xj_H) (h : fU_addYears_56 k15 k35 v0 v1 v2 v3 A = some (xf_r z)) : xj_W l z 56 [(0, xj_rv v0), (1, .int v1), (2, .int v2), (3, .int v3)] [] A := by
  unfold fU_addYears_56 at h
  refine xg_aload_n (pc := 56) (i := 0) (r := v0) B dU_addYears_56 rfl rfl ?_
  refine xg_iload_n (pc := 57) (i := 2) B dU_addYears_57 rfl rfl ?_
  refine xg_iload_n (pc := 58) (i := 3) B dU_addYears_58 rfl rfl ?_
  refine xg_iadd (pc := 59) B dU_addYears_59 ?_
  obtain ⟨hq60, h⟩ := xj_rq_v h
  refine xg_cv (pc := 60) (av := [xj_rv v0, .int (v2 + v3)]) (st := []) (cy := prog_8_method_7_code) (nLy := 5) (rety := none) (hsy := []) B dU_addYears_60 (xj_go_v B dU_addYears_60 vwU_117 rfl hq60) (xj_vw_c vwU_117) (xj_vw_i vwU_117) (by decide) (by decide) (by decide) rfl (fun r9 h9 => cU_addMonth hl _ _ _ r9 h9) h (fun A1 eA1 h => ?_)
  exact wU_addYears_63 hl B k15 hk15 k35 hk35 v0 v1 v2 v3 A1 h
theorem wU_addYears_35 {l : Launch} (hl : l.stackTraces = false) {z : xj_F} (B : xj_B l yU_addYears prog_8_method_6_code 4 none [] 5 z) (k15 : xj_Rf → Int32 → Int32 → xj_H → Option xj_R) (hk15 : ∀ (v0 : xj_Rf) (v1 : Int32) (v2 : Int32) (A : xj_H), k15 v0 v1 v2 A = some (xf_r z) → xj_W l z 15 [(0, xj_rv v0), (1, .int v1), (2, .int v2)] [] A) : ∀ (n : Nat) (v0 : xj_Rf) (v1 : Int32) (v2 : Int32) (v3 : Int32) (A : xj_H), fU_addYears_35 k15 n v0 v1 v2 v3 A = some (xf_r z) → xj_W l z 35 [(0, xj_rv v0), (1, .int v1), (2, .int v2), (3, .int v3)] [] A
  | 0, _, _, _, _, _, h => by simp [fU_addYears_35] at h
  | n + 1, v0, v1, v2, v3, A, h => by
    rw [fU_addYears_35] at h
    refine xg_iload_n (pc := 35) (i := 3) B dU_addYears_35 rfl rfl ?_
    refine xg_bipush (pc := 36) (v := 12) B dU_addYears_36 (by decide) ?_
    refine xg_icmp_ge (pc := 38) (tgt := 69) B dU_addYears_38 (by decide) h (fun c38 h => ?_) (fun c38 h => ?_)
    · refine xg_iload_n (pc := 69) (i := 2) B dU_addYears_69 rfl rfl ?_
      refine xg_bipush (pc := 70) (v := 12) B dU_addYears_70 (by decide) ?_
      refine xg_aload_n (pc := 72) (i := 0) (r := v0) B dU_addYears_72 rfl rfl ?_
      refine xg_geti (pc := 73) B dU_addYears_73 flU_55 h (fun x1 ex1 h => ?_)
      refine xg_imul (pc := 76) B dU_addYears_76 ?_
      refine xg_iadd (pc := 77) B dU_addYears_77 ?_
      refine xg_istore_n (pc := 78) (i := 2) (ls' := [(2, .int (v2 + ((12 : Int32) * x1))), (0, xj_rv v0), (1, .int v1), (3, .int v3)]) B dU_addYears_78 rfl (by decide) ⟨xj_nq (a := 0) (i := 2) (by decide), fun _ => rfl, xj_nq (a := 2) (i := 2) (by decide), xj_nq (a := 3) (i := 2) (by decide), trivial⟩ rfl ?_
      refine xg_goto (pc := 79) (tgt := 15) B dU_addYears_79 (by decide) ?_
      refine xg_sub (ls' := [(0, xj_rv v0), (1, .int v1), (2, .int (v2 + ((12 : Int32) * x1)))]) [1, 2, 0] rfl ?_
      exact hk15 v0 v1 (v2 + ((12 : Int32) * x1)) A h
    · refine xg_aload_n (pc := 41) (i := 0) (r := v0) B dU_addYears_41 rfl rfl ?_
      refine xg_getr (pc := 42) B dU_addYears_42 flU_9 h (fun x2 ex2 h => ?_)
      refine xg_geti (pc := 45) B dU_addYears_45 flU_120 h (fun x3 ex3 h => ?_)
      refine xg_if_ne (pc := 48) (tgt := 56) B dU_addYears_48 (by decide) h (fun c48 h => ?_) (fun c48 h => ?_)
      · exact wU_addYears_56 hl B k15 hk15 (fU_addYears_35 k15 n) (wU_addYears_35 hl B k15 hk15 n) v0 v1 v2 v3 A h
      · refine xg_iload_n (pc := 51) (i := 3) B dU_addYears_51 rfl rfl ?_
        refine xg_iload_n (pc := 52) (i := 1) B dU_addYears_52 rfl rfl ?_
        refine xg_icmp_ne (pc := 53) (tgt := 63) B dU_addYears_53 (by decide) h (fun c53 h => ?_) (fun c53 h => ?_)
        · exact wU_addYears_63 hl B k15 hk15 (fU_addYears_35 k15 n) (wU_addYears_35 hl B k15 hk15 n) v0 v1 v2 v3 A h
        · exact wU_addYears_56 hl B k15 hk15 (fU_addYears_35 k15 n) (wU_addYears_35 hl B k15 hk15 n) v0 v1 v2 v3 A h
theorem wU_addYears_15 {l : Launch} (hl : l.stackTraces = false) {z : xj_F} (B : xj_B l yU_addYears prog_8_method_6_code 4 none [] 5 z) : ∀ (n : Nat) (v0 : xj_Rf) (v1 : Int32) (v2 : Int32) (A : xj_H), fU_addYears_15 n v0 v1 v2 A = some (xf_r z) → xj_W l z 15 [(0, xj_rv v0), (1, .int v1), (2, .int v2)] [] A
  | 0, _, _, _, _, h => by simp [fU_addYears_15] at h
  | n + 1, v0, v1, v2, A, h => by
    rw [fU_addYears_15] at h
    refine xg_iload_n (pc := 15) (i := 2) B dU_addYears_15 rfl rfl ?_
    refine xg_sipush (pc := 16) (v := 1200) B dU_addYears_16 (by decide) ?_
    refine xg_icmp_ge (pc := 19) (tgt := 82) B dU_addYears_19 (by decide) h (fun c19 h => ?_) (fun c19 h => ?_)
    · refine xg_sub (ls' := []) [] rfl ?_
      exact wU_addYears_82 hl B  A h
    · refine xg_aload_n (pc := 22) (i := 0) (r := v0) B dU_addYears_22 rfl rfl ?_
      refine xg_geti (pc := 23) B dU_addYears_23 flU_65 h (fun x1 ex1 h => ?_)
      refine xg_aload_n (pc := 26) (i := 0) (r := v0) B dU_addYears_26 rfl rfl ?_
      refine xg_geti (pc := 27) B dU_addYears_27 flU_62 h (fun x2 ex2 h => ?_)
      refine xg_icmp_ge (pc := 30) (tgt := 82) B dU_addYears_30 (by decide) h (fun c30 h => ?_) (fun c30 h => ?_)
      · refine xg_sub (ls' := []) [] rfl ?_
        exact wU_addYears_82 hl B  A h
      · refine xg_iconst (pc := 33) (v := 0) B dU_addYears_33 (by decide) ?_
        refine xg_istore_n (pc := 34) (i := 3) (ls' := [(3, .int (0 : Int32)), (0, xj_rv v0), (1, .int v1), (2, .int v2)]) B dU_addYears_34 rfl (by decide) ⟨xj_nq (a := 0) (i := 3) (by decide), xj_nq (a := 1) (i := 3) (by decide), fun _ => rfl, trivial⟩ rfl ?_
        refine xg_sub (ls' := [(0, xj_rv v0), (1, .int v1), (2, .int v2), (3, .int (0 : Int32))]) [1, 2, 3, 0] rfl ?_
        exact wU_addYears_35 hl B (fU_addYears_15 n) (wU_addYears_15 hl B n) xj_fu v0 v1 v2 (0 : Int32) A h
theorem wU_addYears {l : Launch} (hl : l.stackTraces = false) {z : xj_F} (B : xj_B l yU_addYears prog_8_method_6_code 4 none [] 5 z) (v0 : xj_Rf) (A : xj_H) (h : fU_addYears v0 A = some (xf_r z)) : xj_W l z 0 [(0, xj_rv v0)] [] A := by
  unfold fU_addYears at h
  refine xg_aload_n (pc := 0) (i := 0) (r := v0) B dU_addYears_0 rfl rfl ?_
  refine xg_geti (pc := 1) B dU_addYears_1 flU_29 h (fun x1 ex1 h => ?_)
  refine xg_bipush (pc := 4) (v := 12) B dU_addYears_4 (by decide) ?_
  refine xg_irem (pc := 6) B dU_addYears_6 (by decide) ?_
  refine xg_istore_n (pc := 7) (i := 1) (ls' := [(1, .int (x1 % (12 : Int32))), (0, xj_rv v0)]) B dU_addYears_7 rfl (by decide) ⟨fun _ => xj_rv_cat v0, trivial⟩ rfl ?_
  refine xg_aload_n (pc := 8) (i := 0) (r := v0) B dU_addYears_8 rfl rfl ?_
  refine xg_geti (pc := 9) B dU_addYears_9 flU_29 h (fun x2 ex2 h => ?_)
  refine xg_iload_n (pc := 12) (i := 1) B dU_addYears_12 rfl rfl ?_
  refine xg_isub (pc := 13) B dU_addYears_13 ?_
  refine xg_istore_n (pc := 14) (i := 2) (ls' := [(2, .int (x2 - (x1 % (12 : Int32)))), (1, .int (x1 % (12 : Int32))), (0, xj_rv v0)]) B dU_addYears_14 rfl (by decide) ⟨fun _ => rfl, xj_nq (a := 0) (i := 2) (by decide), trivial⟩ rfl ?_
  refine xg_sub (ls' := [(0, xj_rv v0), (1, .int (x1 % (12 : Int32))), (2, .int (x2 - (x1 % (12 : Int32))))]) [2, 1, 0] rfl ?_
  exact wU_addYears_15 hl B xj_fu v0 (x1 % (12 : Int32)) (x2 - (x1 % (12 : Int32))) A h
theorem cU_addYears {l : Launch} (hl : l.stackTraces = false) (v0 : xj_Rf) (A : xj_H) (r : xj_R) (h : fU_addYears v0 A = some r) : xj_M l yU_addYears prog_8_method_6_code 4 none [] 5 [xj_rv v0] A r := by
  refine xj_M.of hl (by decide +kernel) (by simp [lg_sl, xj_ic, xj_lc, xj_rv_cat]) (fun z B hA hr => ?_)
  subst hr
  have hw := wU_addYears hl B v0 A h
  simpa [lv_args, xj_ic, xj_lc, xj_rv_cat] using hw
/-! RecurrenceBook$Unfolding.unfold()I -/
def fU_unfold_72 (v0 : xj_Rf) (A : xj_H) : Option xj_R :=
  (xj_gi A v0 6 8).bind fun x1 =>
  some (.inl (some (.int x1)), A)
def fU_unfold (v0 : xj_Rf) (A : xj_H) : Option xj_R :=
  (xj_gi A v0 6 2).bind fun x1 =>
  xj_bv (xj_rq A v0 6 (fU_enterMonth v0 x1 A)) fun A2 =>
  (xj_gr A2 v0 6 0).bind fun x3 =>
  (xj_gr A2 x3 4 0).bind fun x4 =>
  if xj_e4 x4 && xj_e4 (some (.inr 0)) then
  if ¬ x4 = (some (.inr 0)) then
    (xj_gr A2 v0 6 0).bind fun x5 =>
    (xj_gr A2 x5 4 0).bind fun x6 =>
    if xj_e4 x6 && xj_e4 (some (.inr 1)) then
    if ¬ x6 = (some (.inr 1)) then
      (xj_gr A2 v0 6 0).bind fun x7 =>
      (xj_gr A2 x7 4 0).bind fun x8 =>
      if xj_e4 x8 && xj_e4 (some (.inr 2)) then
      if ¬ x8 = (some (.inr 2)) then
        xj_bv (xj_rq A2 v0 6 (fU_addYears v0 A2)) fun A9 =>
        fU_unfold_72 v0 A9
      else
        xj_bv (xj_rq A2 v0 6 (fU_addMonths v0 A2)) fun A10 =>
        fU_unfold_72 v0 A10
      else none
    else
      xj_bv (xj_rq A2 v0 6 (fU_addWeeks v0 A2)) fun A11 =>
      fU_unfold_72 v0 A11
    else none
  else
    xj_bv (xj_rq A2 v0 6 (fU_addDays v0 A2)) fun A12 =>
    fU_unfold_72 v0 A12
  else none
theorem wU_unfold_72 {l : Launch} (hl : l.stackTraces = false) {z : xj_F} (B : xj_B l yU_unfold prog_8_method_2_code 1 (some .int) [] 6 z) (v0 : xj_Rf) (A : xj_H) (h : fU_unfold_72 v0 A = some (xf_r z)) : xj_W l z 72 [(0, xj_rv v0)] [] A := by
  unfold fU_unfold_72 at h
  refine xg_aload_n (pc := 72) (i := 0) (r := v0) B dU_unfold_72 rfl rfl ?_
  refine xg_geti (pc := 73) B dU_unfold_73 flU_65 h (fun x1 ex1 h => ?_)
  exact xg_iret B dU_unfold_76 h
theorem wU_unfold {l : Launch} (hl : l.stackTraces = false) {z : xj_F} (B : xj_B l yU_unfold prog_8_method_2_code 1 (some .int) [] 6 z) (v0 : xj_Rf) (A : xj_H) (h : fU_unfold v0 A = some (xf_r z)) : xj_W l z 0 [(0, xj_rv v0)] [] A := by
  unfold fU_unfold at h
  refine xg_aload_n (pc := 0) (i := 0) (r := v0) B dU_unfold_0 rfl rfl ?_
  refine xg_aload_n (pc := 1) (i := 0) (r := v0) B dU_unfold_1 rfl rfl ?_
  refine xg_geti (pc := 2) B dU_unfold_2 flU_29 h (fun x1 ex1 h => ?_)
  obtain ⟨hq5, h⟩ := xj_rq_v h
  refine xg_cv (pc := 5) (av := [xj_rv v0, .int x1]) (st := []) (cy := prog_8_method_8_code) (nLy := 2) (rety := none) (hsy := []) B dU_unfold_5 (xj_go_v B dU_unfold_5 vwU_66 rfl hq5) (xj_vw_c vwU_66) (xj_vw_i vwU_66) (by decide) (by decide) (by decide) rfl (fun r9 h9 => cU_enterMonth hl _ _ _ r9 h9) h (fun A2 eA2 h => ?_)
  refine xg_aload_n (pc := 8) (i := 0) (r := v0) B dU_unfold_8 rfl rfl ?_
  refine xg_getr (pc := 9) B dU_unfold_9 flU_9 h (fun x3 ex3 h => ?_)
  refine xg_getr (pc := 12) B dU_unfold_12 flU_70 h (fun x4 ex4 h => ?_)
  refine xg_gete (pc := 15) (i := 0) B dU_unfold_15 (by decide) gsU_74 ?_
  refine xg_acmp_ne (pc := 18) (tgt := 28) B dU_unfold_18 (by decide) h (fun c18 h => ?_) (fun c18 h => ?_)
  · refine xg_aload_n (pc := 28) (i := 0) (r := v0) B dU_unfold_28 rfl rfl ?_
    refine xg_getr (pc := 29) B dU_unfold_29 flU_9 h (fun x5 ex5 h => ?_)
    refine xg_getr (pc := 32) B dU_unfold_32 flU_70 h (fun x6 ex6 h => ?_)
    refine xg_gete (pc := 35) (i := 1) B dU_unfold_35 (by decide) gsU_82 ?_
    refine xg_acmp_ne (pc := 38) (tgt := 48) B dU_unfold_38 (by decide) h (fun c38 h => ?_) (fun c38 h => ?_)
    · refine xg_aload_n (pc := 48) (i := 0) (r := v0) B dU_unfold_48 rfl rfl ?_
      refine xg_getr (pc := 49) B dU_unfold_49 flU_9 h (fun x7 ex7 h => ?_)
      refine xg_getr (pc := 52) B dU_unfold_52 flU_70 h (fun x8 ex8 h => ?_)
      refine xg_gete (pc := 55) (i := 2) B dU_unfold_55 (by decide) gsU_88 ?_
      refine xg_acmp_ne (pc := 58) (tgt := 68) B dU_unfold_58 (by decide) h (fun c58 h => ?_) (fun c58 h => ?_)
      · refine xg_aload_n (pc := 68) (i := 0) (r := v0) B dU_unfold_68 rfl rfl ?_
        obtain ⟨hq69, h⟩ := xj_rq_v h
        refine xg_cv (pc := 69) (av := [xj_rv v0]) (st := []) (cy := prog_8_method_6_code) (nLy := 4) (rety := none) (hsy := []) B dU_unfold_69 (xj_go_v B dU_unfold_69 vwU_94 rfl hq69) (xj_vw_c vwU_94) (xj_vw_i vwU_94) (by decide) (by decide) (by decide) rfl (fun r9 h9 => cU_addYears hl _ _ r9 h9) h (fun A9 eA9 h => ?_)
        exact wU_unfold_72 hl B v0 A9 h
      · refine xg_aload_n (pc := 61) (i := 0) (r := v0) B dU_unfold_61 rfl rfl ?_
        obtain ⟨hq62, h⟩ := xj_rq_v h
        refine xg_cv (pc := 62) (av := [xj_rv v0]) (st := []) (cy := prog_8_method_5_code) (nLy := 2) (rety := none) (hsy := []) B dU_unfold_62 (xj_go_v B dU_unfold_62 vwU_91 rfl hq62) (xj_vw_c vwU_91) (xj_vw_i vwU_91) (by decide) (by decide) (by decide) rfl (fun r9 h9 => cU_addMonths hl _ _ r9 h9) h (fun A10 eA10 h => ?_)
        refine xg_goto (pc := 65) (tgt := 72) B dU_unfold_65 (by decide) ?_
        exact wU_unfold_72 hl B v0 A10 h
    · refine xg_aload_n (pc := 41) (i := 0) (r := v0) B dU_unfold_41 rfl rfl ?_
      obtain ⟨hq42, h⟩ := xj_rq_v h
      refine xg_cv (pc := 42) (av := [xj_rv v0]) (st := []) (cy := prog_8_method_4_code) (nLy := 4) (rety := none) (hsy := []) B dU_unfold_42 (xj_go_v B dU_unfold_42 vwU_85 rfl hq42) (xj_vw_c vwU_85) (xj_vw_i vwU_85) (by decide) (by decide) (by decide) rfl (fun r9 h9 => cU_addWeeks hl _ _ r9 h9) h (fun A11 eA11 h => ?_)
      refine xg_goto (pc := 45) (tgt := 72) B dU_unfold_45 (by decide) ?_
      exact wU_unfold_72 hl B v0 A11 h
  · refine xg_aload_n (pc := 21) (i := 0) (r := v0) B dU_unfold_21 rfl rfl ?_
    obtain ⟨hq22, h⟩ := xj_rq_v h
    refine xg_cv (pc := 22) (av := [xj_rv v0]) (st := []) (cy := prog_8_method_3_code) (nLy := 2) (rety := none) (hsy := []) B dU_unfold_22 (xj_go_v B dU_unfold_22 vwU_79 rfl hq22) (xj_vw_c vwU_79) (xj_vw_i vwU_79) (by decide) (by decide) (by decide) rfl (fun r9 h9 => cU_addDays hl _ _ r9 h9) h (fun A12 eA12 h => ?_)
    refine xg_goto (pc := 25) (tgt := 72) B dU_unfold_25 (by decide) ?_
    exact wU_unfold_72 hl B v0 A12 h
theorem cU_unfold {l : Launch} (hl : l.stackTraces = false) (v0 : xj_Rf) (A : xj_H) (r : xj_R) (h : fU_unfold v0 A = some r) : xj_M l yU_unfold prog_8_method_2_code 1 (some .int) [] 6 [xj_rv v0] A r := by
  refine xj_M.of hl (by decide +kernel) (by simp [lg_sl, xj_ic, xj_lc, xj_rv_cat]) (fun z B hA hr => ?_)
  subst hr
  have hw := wU_unfold hl B v0 A h
  simpa [lv_args, xj_ic, xj_lc, xj_rv_cat] using hw
/-! RecurrenceBook$Event.begin(III)V -/
def fE_begin (v0 : xj_Rf) (v1 : Int32) (v2 : Int32) (v3 : Int32) (A : xj_H) : Option xj_R :=
  (xj_pv A v0 2 4 (.int v1)).bind fun A1 =>
  (xj_pv A1 v0 2 5 (.int v2)).bind fun A2 =>
  (xj_pv A2 v0 2 2 (.int v3)).bind fun A3 =>
  (xj_pv A3 v0 2 3 (.int (0 : Int32))).bind fun A4 =>
  some (.inl none, A4)
theorem wE_begin {l : Launch} (hl : l.stackTraces = false) {z : xj_F} (B : xj_B l yE_begin prog_3_method_2_code 4 none [] 1 z) (v0 : xj_Rf) (v1 : Int32) (v2 : Int32) (v3 : Int32) (A : xj_H) (h : fE_begin v0 v1 v2 v3 A = some (xf_r z)) : xj_W l z 0 [(0, xj_rv v0), (1, .int v1), (2, .int v2), (3, .int v3)] [] A := by
  unfold fE_begin at h
  refine xg_aload_n (pc := 0) (i := 0) (r := v0) B dE_begin_0 rfl rfl ?_
  refine xg_iload_n (pc := 1) (i := 1) B dE_begin_1 rfl rfl ?_
  refine xg_puti (pc := 2) B dE_begin_2 (fpE_18 _) h (fun A1 eA1 h => ?_)
  refine xg_aload_n (pc := 5) (i := 0) (r := v0) B dE_begin_5 rfl rfl ?_
  refine xg_iload_n (pc := 6) (i := 2) B dE_begin_6 rfl rfl ?_
  refine xg_puti (pc := 7) B dE_begin_7 (fpE_22 _) h (fun A2 eA2 h => ?_)
  refine xg_aload_n (pc := 10) (i := 0) (r := v0) B dE_begin_10 rfl rfl ?_
  refine xg_iload_n (pc := 11) (i := 3) B dE_begin_11 rfl rfl ?_
  refine xg_puti (pc := 12) B dE_begin_12 (fpE_25 _) h (fun A3 eA3 h => ?_)
  refine xg_aload_n (pc := 15) (i := 0) (r := v0) B dE_begin_15 rfl rfl ?_
  refine xg_iconst (pc := 16) (v := 0) B dE_begin_16 (by decide) ?_
  refine xg_puti (pc := 17) B dE_begin_17 (fpE_28 _) h (fun A4 eA4 h => ?_)
  exact xg_vret B dE_begin_20 h
theorem cE_begin {l : Launch} (hl : l.stackTraces = false) (v0 : xj_Rf) (v1 : Int32) (v2 : Int32) (v3 : Int32) (A : xj_H) (r : xj_R) (h : fE_begin v0 v1 v2 v3 A = some r) : xj_M l yE_begin prog_3_method_2_code 4 none [] 1 [xj_rv v0, .int v1, .int v2, .int v3] A r := by
  refine xj_M.of hl (by decide +kernel) (by simp [lg_sl, xj_ic, xj_lc, xj_rv_cat]) (fun z B hA hr => ?_)
  subst hr
  have hw := wE_begin hl B v0 v1 v2 v3 A h
  simpa [lv_args, xj_ic, xj_lc, xj_rv_cat] using hw
/-! RecurrenceBook.event(III)I -/
def fB_event_71 (A : xj_H) : Option xj_R :=
  xj_th A "java/lang/IllegalArgumentException"
def fB_event (v0 : xj_Rf) (v1 : Int32) (v2 : Int32) (v3 : Int32) (A : xj_H) : Option xj_R :=
  (xj_gi A v0 0 4).bind fun x1 =>
  if x1 < (8 : Int32) then
    (xj_mk A (.inr (5, [.null, .int 0, .int 0, .null])) 4).bind fun A2 =>
    (xj_gr A2 v0 0 0).bind fun x3 =>
    (xj_gi A2 v0 0 1).bind fun x4 =>
    xj_bv (fQ_init (xj_o A.1.length) x3 x4 A2) fun A5 =>
    (xj_pv A5 v0 0 1 (.int (0 : Int32))).bind fun A6 =>
    xj_bi (fB_isDay v1 A6) fun x7 A8 =>
    if x7 = 0 then
      fB_event_71  A8
    else
      if v2 < 0 then
        fB_event_71  A8
      else
        if (1440 : Int32) ≤ v2 then
          fB_event_71  A8
        else
          if v3 < (1 : Int32) then
            fB_event_71  A8
          else
            if v3 ≤ (2880 : Int32) then
              xj_bi (xj_rq A8 (xj_o A.1.length) 5 (fQ_readRule (xj_o A.1.length) A8)) fun x9 A10 =>
              if ¬ x9 = 0 then
                (xj_gr A10 v0 0 3).bind fun x11 =>
                (xj_gi A10 v0 0 4).bind fun x12 =>
                (xj_ral A10 x11 x12).bind fun x13 =>
                (xj_mk A10 (.inr (6, [.null, .int 0, .int 0, .int 0, .int 0, .int 0, .int 0, .null, .int 0, .int 0, .int 0, .int 0])) 12).bind fun A14 =>
                (xj_gr A14 (xj_o A.1.length) 5 3).bind fun x15 =>
                (xj_gr A14 x13 2 0).bind fun x16 =>
                xj_bv (fU_init (xj_o A10.1.length) x15 v1 x16 A14) fun A17 =>
                xj_bi (xj_rq A17 (xj_o A10.1.length) 6 (fU_unfold (xj_o A10.1.length) A17)) fun x18 A19 =>
                xj_bv (xj_rq A19 x13 2 (fE_begin x13 v2 v3 x18 A19)) fun A20 =>
                (xj_gr A20 v0 0 2).bind fun x21 =>
                xj_bv (xj_rq A20 x13 2 (fE_settle x13 x21 A20)) fun A22 =>
                (xj_gi A22 v0 0 4).bind fun x23 =>
                (xj_pv A22 v0 0 4 (.int (x23 + (1 : Int32)))).bind fun A24 =>
                (xj_gi A24 v0 0 4).bind fun x25 =>
                some (.inl (some (.int (x25 - (1 : Int32)))), A24)
              else
                xj_th A10 "java/lang/IllegalArgumentException"
            else
              fB_event_71  A8
  else
    xj_th A "java/lang/IllegalStateException"
theorem wB_event_71 {l : Launch} (hl : l.stackTraces = false) {z : xj_F} (B : xj_B l yB_event prog_1_method_4_code 6 (some .int) [] 10 z) (A : xj_H) (h : fB_event_71  A = some (xf_r z)) : xj_W l z 71 [] [] A := by
  unfold fB_event_71 at h
  exact xg_throw (pc := 71) B dB_event_71 dB_event_74 dB_event_75 dB_event_77 dB_event_80 xwB_53_84_57 (by decide) rfl h
theorem wB_event {l : Launch} (hl : l.stackTraces = false) {z : xj_F} (B : xj_B l yB_event prog_1_method_4_code 6 (some .int) [] 10 z) (v0 : xj_Rf) (v1 : Int32) (v2 : Int32) (v3 : Int32) (A : xj_H) (h : fB_event v0 v1 v2 v3 A = some (xf_r z)) : xj_W l z 0 [(0, xj_rv v0), (1, .int v1), (2, .int v2), (3, .int v3)] [] A := by
  unfold fB_event at h
  refine xg_aload_n (pc := 0) (i := 0) (r := v0) B dB_event_0 rfl rfl ?_
  refine xg_geti (pc := 1) B dB_event_1 flB_35 h (fun x1 ex1 h => ?_)
  refine xg_bipush (pc := 4) (v := 8) B dB_event_4 (by decide) ?_
  refine xg_icmp_lt (pc := 6) (tgt := 19) B dB_event_6 (by decide) h (fun c6 h => ?_) (fun c6 h => ?_)
  · refine xg_new (pc := 19) B dB_event_19 nkB_76 h (fun A2 eA2 h => ?_)
    refine xg_dup (pc := 22) B dB_event_22 (xj_rv_cat (xj_o A.1.length)) ?_
    refine xg_aload_n (pc := 23) (i := 0) (r := v0) B dB_event_23 rfl rfl ?_
    refine xg_getr (pc := 24) B dB_event_24 flB_9 h (fun x3 ex3 h => ?_)
    refine xg_aload_n (pc := 27) (i := 0) (r := v0) B dB_event_27 rfl rfl ?_
    refine xg_geti (pc := 28) B dB_event_28 flB_13 h (fun x4 ex4 h => ?_)
    refine xg_cv (pc := 31) (av := [xj_rv (xj_o A.1.length), xj_rv x3, .int x4]) (st := [xj_rv (xj_o A.1.length)]) (cy := prog_6_method_1_code) (nLy := 3) (rety := none) (hsy := []) B dB_event_31 (xj_go_i B dB_event_31 iwB_78 rfl) iwB_78.2.2.1 iwB_78.2.2.2.1 (by decide) (by decide) (by simp [xj_ic, xj_lc, xj_rv_cat]) rfl (fun r9 h9 => cQ_init hl _ _ _ _ r9 h9) h (fun A5 eA5 h => ?_)
    refine xg_astore (pc := 34) (i := 4) (r := (xj_o A.1.length)) (ls' := [(4, xj_rv (xj_o A.1.length)), (0, xj_rv v0), (1, .int v1), (2, .int v2), (3, .int v3)]) B dB_event_34 (by decide) ⟨xj_nq (a := 0) (i := 4) (by decide), xj_nq (a := 1) (i := 4) (by decide), xj_nq (a := 2) (i := 4) (by decide), fun _ => rfl, trivial⟩ rfl ?_
    refine xg_aload_n (pc := 36) (i := 0) (r := v0) B dB_event_36 rfl rfl ?_
    refine xg_iconst (pc := 37) (v := 0) B dB_event_37 (by decide) ?_
    refine xg_puti (pc := 38) B dB_event_38 (fpB_13 _) h (fun A6 eA6 h => ?_)
    refine xg_iload_n (pc := 41) (i := 1) B dB_event_41 rfl rfl ?_
    refine xg_ci (pc := 42) (av := [.int v1]) (st := []) (cy := prog_1_method_20_code) (nLy := 1) (rety := (some .boolean)) (hsy := []) B dB_event_42 (xj_go_s B dB_event_42 swB_81 rfl) swB_81.2.2.1 swB_81.2.2.2.1 (by decide) (by decide) (by decide) rfl (fun r9 h9 => cB_isDay hl _ _ r9 h9) h (fun x7 A8 eA8 h => ?_)
    refine xg_if_eq (pc := 45) (tgt := 71) B dB_event_45 (by decide) h (fun c45 h => ?_) (fun c45 h => ?_)
    · refine xg_sub (ls' := []) [] rfl ?_
      exact wB_event_71 hl B  A8 h
    · refine xg_iload_n (pc := 48) (i := 2) B dB_event_48 rfl rfl ?_
      refine xg_if_lt (pc := 49) (tgt := 71) B dB_event_49 (by decide) h (fun c49 h => ?_) (fun c49 h => ?_)
      · refine xg_sub (ls' := []) [] rfl ?_
        exact wB_event_71 hl B  A8 h
      · refine xg_iload_n (pc := 52) (i := 2) B dB_event_52 rfl rfl ?_
        refine xg_sipush (pc := 53) (v := 1440) B dB_event_53 (by decide) ?_
        refine xg_icmp_ge (pc := 56) (tgt := 71) B dB_event_56 (by decide) h (fun c56 h => ?_) (fun c56 h => ?_)
        · refine xg_sub (ls' := []) [] rfl ?_
          exact wB_event_71 hl B  A8 h
        · refine xg_iload_n (pc := 59) (i := 3) B dB_event_59 rfl rfl ?_
          refine xg_iconst (pc := 60) (v := 1) B dB_event_60 (by decide) ?_
          refine xg_icmp_lt (pc := 61) (tgt := 71) B dB_event_61 (by decide) h (fun c61 h => ?_) (fun c61 h => ?_)
          · refine xg_sub (ls' := []) [] rfl ?_
            exact wB_event_71 hl B  A8 h
          · refine xg_iload_n (pc := 64) (i := 3) B dB_event_64 rfl rfl ?_
            refine xg_sipush (pc := 65) (v := 2880) B dB_event_65 (by decide) ?_
            refine xg_icmp_le (pc := 68) (tgt := 81) B dB_event_68 (by decide) h (fun c68 h => ?_) (fun c68 h => ?_)
            · refine xg_aload (pc := 81) (i := 4) (r := (xj_o A.1.length)) B dB_event_81 rfl ?_
              obtain ⟨hq83, h⟩ := xj_rq_i h
              refine xg_ci (pc := 83) (av := [xj_rv (xj_o A.1.length)]) (st := []) (cy := prog_6_method_2_code) (nLy := 2) (rety := (some .boolean)) (hsy := []) B dB_event_83 (xj_go_v B dB_event_83 vwB_86 rfl hq83) (xj_vw_c vwB_86) (xj_vw_i vwB_86) (by decide) (by decide) (by decide) rfl (fun r9 h9 => cQ_readRule hl _ _ r9 h9) h (fun x9 A10 eA10 h => ?_)
              refine xg_if_ne (pc := 86) (tgt := 99) B dB_event_86 (by decide) h (fun c86 h => ?_) (fun c86 h => ?_)
              · refine xg_aload_n (pc := 99) (i := 0) (r := v0) B dB_event_99 rfl rfl ?_
                refine xg_getr (pc := 100) B dB_event_100 flB_30 h (fun x11 ex11 h => ?_)
                refine xg_aload_n (pc := 103) (i := 0) (r := v0) B dB_event_103 rfl rfl ?_
                refine xg_geti (pc := 104) B dB_event_104 flB_35 h (fun x12 ex12 h => ?_)
                refine xg_aaload (pc := 107) B dB_event_107 h (fun x13 ex13 h => ?_)
                refine xg_astore (pc := 108) (i := 5) (r := x13) (ls' := [(5, xj_rv x13), (4, xj_rv (xj_o A.1.length)), (0, xj_rv v0), (1, .int v1), (2, .int v2), (3, .int v3)]) B dB_event_108 (by decide) ⟨fun _ => xj_rv_cat (xj_o A.1.length), xj_nq (a := 0) (i := 5) (by decide), xj_nq (a := 1) (i := 5) (by decide), xj_nq (a := 2) (i := 5) (by decide), xj_nq (a := 3) (i := 5) (by decide), trivial⟩ rfl ?_
                refine xg_aload (pc := 110) (i := 5) (r := x13) B dB_event_110 rfl ?_
                refine xg_iload_n (pc := 112) (i := 2) B dB_event_112 rfl rfl ?_
                refine xg_iload_n (pc := 113) (i := 3) B dB_event_113 rfl rfl ?_
                refine xg_new (pc := 114) B dB_event_114 nkB_92 h (fun A14 eA14 h => ?_)
                refine xg_dup (pc := 117) B dB_event_117 (xj_rv_cat (xj_o A10.1.length)) ?_
                refine xg_aload (pc := 118) (i := 4) (r := (xj_o A.1.length)) B dB_event_118 rfl ?_
                refine xg_getr (pc := 120) B dB_event_120 flB_94 h (fun x15 ex15 h => ?_)
                refine xg_iload_n (pc := 123) (i := 1) B dB_event_123 rfl rfl ?_
                refine xg_aload (pc := 124) (i := 5) (r := x13) B dB_event_124 rfl ?_
                refine xg_getr (pc := 126) B dB_event_126 flB_98 h (fun x16 ex16 h => ?_)
                refine xg_cv (pc := 129) (av := [xj_rv (xj_o A10.1.length), xj_rv x15, .int v1, xj_rv x16]) (st := [xj_rv (xj_o A10.1.length), .int v3, .int v2, xj_rv x13]) (cy := prog_8_method_1_code) (nLy := 4) (rety := none) (hsy := []) B dB_event_129 (xj_go_i B dB_event_129 iwB_101 rfl) iwB_101.2.2.1 iwB_101.2.2.2.1 (by decide) (by decide) (by simp [xj_ic, xj_lc, xj_rv_cat]) rfl (fun r9 h9 => cU_init hl _ _ _ _ _ r9 h9) h (fun A17 eA17 h => ?_)
                obtain ⟨hq132, h⟩ := xj_rq_i h
                refine xg_ci (pc := 132) (av := [xj_rv (xj_o A10.1.length)]) (st := [.int v3, .int v2, xj_rv x13]) (cy := prog_8_method_2_code) (nLy := 1) (rety := (some .int)) (hsy := []) B dB_event_132 (xj_go_v B dB_event_132 vwB_104 rfl hq132) (xj_vw_c vwB_104) (xj_vw_i vwB_104) (by decide) (by decide) (by simp [xj_ic, xj_lc, xj_rv_cat]) rfl (fun r9 h9 => cU_unfold hl _ _ r9 h9) h (fun x18 A19 eA19 h => ?_)
                obtain ⟨hq135, h⟩ := xj_rq_v h
                refine xg_cv (pc := 135) (av := [xj_rv x13, .int v2, .int v3, .int x18]) (st := []) (cy := prog_3_method_2_code) (nLy := 4) (rety := none) (hsy := []) B dB_event_135 (xj_go_v B dB_event_135 vwB_108 rfl hq135) (xj_vw_c vwB_108) (xj_vw_i vwB_108) (by decide) (by decide) (by decide) rfl (fun r9 h9 => cE_begin hl _ _ _ _ _ r9 h9) h (fun A20 eA20 h => ?_)
                refine xg_aload (pc := 138) (i := 5) (r := x13) B dB_event_138 rfl ?_
                refine xg_aload_n (pc := 140) (i := 0) (r := v0) B dB_event_140 rfl rfl ?_
                refine xg_getr (pc := 141) B dB_event_141 flB_20 h (fun x21 ex21 h => ?_)
                obtain ⟨hq144, h⟩ := xj_rq_v h
                refine xg_cv (pc := 144) (av := [xj_rv x13, xj_rv x21]) (st := []) (cy := prog_3_method_4_code) (nLy := 5) (rety := none) (hsy := []) B dB_event_144 (xj_go_v B dB_event_144 vwB_67 rfl hq144) (xj_vw_c vwB_67) (xj_vw_i vwB_67) (by decide) (by decide) (by decide) rfl (fun r9 h9 => cE_settle hl _ _ _ r9 h9) h (fun A22 eA22 h => ?_)
                refine xg_aload_n (pc := 147) (i := 0) (r := v0) B dB_event_147 rfl rfl ?_
                refine xg_dup (pc := 148) B dB_event_148 (xj_rv_cat v0) ?_
                refine xg_geti (pc := 149) B dB_event_149 flB_35 h (fun x23 ex23 h => ?_)
                refine xg_iconst (pc := 152) (v := 1) B dB_event_152 (by decide) ?_
                refine xg_iadd (pc := 153) B dB_event_153 ?_
                refine xg_puti (pc := 154) B dB_event_154 (fpB_35 _) h (fun A24 eA24 h => ?_)
                refine xg_aload_n (pc := 157) (i := 0) (r := v0) B dB_event_157 rfl rfl ?_
                refine xg_geti (pc := 158) B dB_event_158 flB_35 h (fun x25 ex25 h => ?_)
                refine xg_iconst (pc := 161) (v := 1) B dB_event_161 (by decide) ?_
                refine xg_isub (pc := 162) B dB_event_162 ?_
                exact xg_iret B dB_event_163 h
              · exact xg_throw (pc := 89) B dB_event_89 dB_event_92 dB_event_93 dB_event_95 dB_event_98 xwB_53_90_57 (by decide) rfl h
            · refine xg_sub (ls' := []) [] rfl ?_
              exact wB_event_71 hl B  A8 h
  · exact xg_throw (pc := 9) B dB_event_9 dB_event_12 dB_event_13 dB_event_15 dB_event_18 xwB_71_73_75 (by decide) rfl h
theorem cB_event {l : Launch} (hl : l.stackTraces = false) (v0 : xj_Rf) (v1 : Int32) (v2 : Int32) (v3 : Int32) (A : xj_H) (r : xj_R) (h : fB_event v0 v1 v2 v3 A = some r) : xj_M l yB_event prog_1_method_4_code 6 (some .int) [] 10 [xj_rv v0, .int v1, .int v2, .int v3] A r := by
  refine xj_M.of hl (by decide +kernel) (by simp [lg_sl, xj_ic, xj_lc, xj_rv_cat]) (fun z B hA hr => ?_)
  subst hr
  have hw := wB_event hl B v0 v1 v2 v3 A h
  simpa [lv_args, xj_ic, xj_lc, xj_rv_cat] using hw
/-! RecurrenceBook.findEvent(I)LRecurrenceBook$Event; -/
def fB_findEvent_12 (A : xj_H) : Option xj_R :=
  xj_th A "java/util/NoSuchElementException"
def fB_findEvent (v0 : xj_Rf) (v1 : Int32) (A : xj_H) : Option xj_R :=
  if v1 < 0 then
    fB_findEvent_12  A
  else
    (xj_gi A v0 0 4).bind fun x1 =>
    if v1 < x1 then
      (xj_gr A v0 0 3).bind fun x2 =>
      (xj_ral A x2 v1).bind fun x3 =>
      some (.inl (some (xj_rv x3)), A)
    else
      fB_findEvent_12  A
theorem wB_findEvent_12 {l : Launch} (hl : l.stackTraces = false) {z : xj_F} (B : xj_B l yB_findEvent prog_1_method_14_code 2 (some (.object "RecurrenceBook$Event")) [] 6 z) (A : xj_H) (h : fB_findEvent_12  A = some (xf_r z)) : xj_W l z 12 [] [] A := by
  unfold fB_findEvent_12 at h
  exact xg_throw (pc := 12) B dB_findEvent_12 dB_findEvent_15 dB_findEvent_16 dB_findEvent_18 dB_findEvent_21 xwB_163_178_167 (by decide) rfl h
theorem wB_findEvent {l : Launch} (hl : l.stackTraces = false) {z : xj_F} (B : xj_B l yB_findEvent prog_1_method_14_code 2 (some (.object "RecurrenceBook$Event")) [] 6 z) (v0 : xj_Rf) (v1 : Int32) (A : xj_H) (h : fB_findEvent v0 v1 A = some (xf_r z)) : xj_W l z 0 [(0, xj_rv v0), (1, .int v1)] [] A := by
  unfold fB_findEvent at h
  refine xg_iload_n (pc := 0) (i := 1) B dB_findEvent_0 rfl rfl ?_
  refine xg_if_lt (pc := 1) (tgt := 12) B dB_findEvent_1 (by decide) h (fun c1 h => ?_) (fun c1 h => ?_)
  · refine xg_sub (ls' := []) [] rfl ?_
    exact wB_findEvent_12 hl B  A h
  · refine xg_iload_n (pc := 4) (i := 1) B dB_findEvent_4 rfl rfl ?_
    refine xg_aload_n (pc := 5) (i := 0) (r := v0) B dB_findEvent_5 rfl rfl ?_
    refine xg_geti (pc := 6) B dB_findEvent_6 flB_35 h (fun x1 ex1 h => ?_)
    refine xg_icmp_lt (pc := 9) (tgt := 22) B dB_findEvent_9 (by decide) h (fun c9 h => ?_) (fun c9 h => ?_)
    · refine xg_aload_n (pc := 22) (i := 0) (r := v0) B dB_findEvent_22 rfl rfl ?_
      refine xg_getr (pc := 23) B dB_findEvent_23 flB_30 h (fun x2 ex2 h => ?_)
      refine xg_iload_n (pc := 26) (i := 1) B dB_findEvent_26 rfl rfl ?_
      refine xg_aaload (pc := 27) B dB_findEvent_27 h (fun x3 ex3 h => ?_)
      exact xg_aret B (Or.inl ⟨_, rfl⟩) dB_findEvent_28 h
    · refine xg_sub (ls' := []) [] rfl ?_
      exact wB_findEvent_12 hl B  A h
theorem cB_findEvent {l : Launch} (hl : l.stackTraces = false) (v0 : xj_Rf) (v1 : Int32) (A : xj_H) (r : xj_R) (h : fB_findEvent v0 v1 A = some r) : xj_M l yB_findEvent prog_1_method_14_code 2 (some (.object "RecurrenceBook$Event")) [] 6 [xj_rv v0, .int v1] A r := by
  refine xj_M.of hl (by decide +kernel) (by simp [lg_sl, xj_ic, xj_lc, xj_rv_cat]) (fun z B hA hr => ?_)
  subst hr
  have hw := wB_findEvent hl B v0 v1 A h
  simpa [lv_args, xj_ic, xj_lc, xj_rv_cat] using hw
/-! RecurrenceBook$Event.leaveOut(I)Z -/
def fE_leaveOut_47 : Nat → xj_Rf → Int32 → xj_H → Option xj_R
  | 0, _, _, _ => none
  | n + 1, v0, v3, A =>
    (xj_gi A v0 2 2).bind fun x1 =>
    if x1 ≤ (v3 + (1 : Int32)) then
      (xj_gi A v0 2 2).bind fun x2 =>
      (xj_pv A v0 2 2 (.int (x2 - (1 : Int32)))).bind fun A3 =>
      (xj_gi A3 v0 2 3).bind fun x4 =>
      (xj_pv A3 v0 2 3 (.int (x4 + (1 : Int32)))).bind fun A5 =>
      xj_rz (1 : Int32) A5
    else
      (xj_gr A v0 2 0).bind fun x6 =>
      (xj_gr A v0 2 0).bind fun x7 =>
      (xj_ai A x7 0 (v3 + (1 : Int32))).bind fun x8 =>
      (xj_as A x6 0 v3 x8).bind fun A9 =>
      (fE_leaveOut_47 n) v0 (v3 + 1) A9
def fE_leaveOut_43 (A : xj_H) : Option xj_R :=
  xj_rz (0 : Int32) A
def fE_leaveOut_26 (v0 : xj_Rf) (v2 : Int32) (A : xj_H) : Option xj_R :=
  (xj_gi A v0 2 2).bind fun x1 =>
  if x1 ≤ v2 then
    fE_leaveOut_43  A
  else
    (xj_gi A v0 2 3).bind fun x2 =>
    if x2 < (12 : Int32) then
      fE_leaveOut_47 xj_fu v0 v2 A
    else
      fE_leaveOut_43  A
def fE_leaveOut_2 : Nat → xj_Rf → Int32 → Int32 → xj_H → Option xj_R
  | 0, _, _, _, _ => none
  | n + 1, v0, v1, v2, A =>
    (xj_gi A v0 2 2).bind fun x1 =>
    if x1 ≤ v2 then
      fE_leaveOut_26 v0 v2 A
    else
      (xj_gr A v0 2 0).bind fun x2 =>
      (xj_ai A x2 0 v2).bind fun x3 =>
      if x3 = v1 then
        fE_leaveOut_26 v0 v2 A
      else
        (fE_leaveOut_2 n) v0 v1 (v2 + 1) A
def fE_leaveOut (v0 : xj_Rf) (v1 : Int32) (A : xj_H) : Option xj_R :=
  fE_leaveOut_2 xj_fu v0 v1 (0 : Int32) A
theorem wE_leaveOut_47 {l : Launch} (hl : l.stackTraces = false) {z : xj_F} (B : xj_B l yE_leaveOut prog_3_method_3_code 4 (some .boolean) [] 1 z) : ∀ (n : Nat) (v0 : xj_Rf) (v3 : Int32) (A : xj_H), fE_leaveOut_47 n v0 v3 A = some (xf_r z) → xj_W l z 47 [(0, xj_rv v0), (3, .int v3)] [] A
  | 0, _, _, _, h => by simp [fE_leaveOut_47] at h
  | n + 1, v0, v3, A, h => by
    rw [fE_leaveOut_47] at h
    refine xg_iload_n (pc := 47) (i := 3) B dE_leaveOut_47 rfl rfl ?_
    refine xg_iconst (pc := 48) (v := 1) B dE_leaveOut_48 (by decide) ?_
    refine xg_iadd (pc := 49) B dE_leaveOut_49 ?_
    refine xg_aload_n (pc := 50) (i := 0) (r := v0) B dE_leaveOut_50 rfl rfl ?_
    refine xg_geti (pc := 51) B dE_leaveOut_51 flE_25 h (fun x1 ex1 h => ?_)
    refine xg_icmp_ge (pc := 54) (tgt := 77) B dE_leaveOut_54 (by decide) h (fun c54 h => ?_) (fun c54 h => ?_)
    · refine xg_aload_n (pc := 77) (i := 0) (r := v0) B dE_leaveOut_77 rfl rfl ?_
      refine xg_dup (pc := 78) B dE_leaveOut_78 (xj_rv_cat v0) ?_
      refine xg_geti (pc := 79) B dE_leaveOut_79 flE_25 h (fun x2 ex2 h => ?_)
      refine xg_iconst (pc := 82) (v := 1) B dE_leaveOut_82 (by decide) ?_
      refine xg_isub (pc := 83) B dE_leaveOut_83 ?_
      refine xg_puti (pc := 84) B dE_leaveOut_84 (fpE_25 _) h (fun A3 eA3 h => ?_)
      refine xg_aload_n (pc := 87) (i := 0) (r := v0) B dE_leaveOut_87 rfl rfl ?_
      refine xg_dup (pc := 88) B dE_leaveOut_88 (xj_rv_cat v0) ?_
      refine xg_geti (pc := 89) B dE_leaveOut_89 flE_28 h (fun x4 ex4 h => ?_)
      refine xg_iconst (pc := 92) (v := 1) B dE_leaveOut_92 (by decide) ?_
      refine xg_iadd (pc := 93) B dE_leaveOut_93 ?_
      refine xg_puti (pc := 94) B dE_leaveOut_94 (fpE_28 _) h (fun A5 eA5 h => ?_)
      refine xg_iconst (pc := 97) (v := 1) B dE_leaveOut_97 (by decide) ?_
      exact xg_zret B dE_leaveOut_98 h
    · refine xg_aload_n (pc := 57) (i := 0) (r := v0) B dE_leaveOut_57 rfl rfl ?_
      refine xg_getr (pc := 58) B dE_leaveOut_58 flE_9 h (fun x6 ex6 h => ?_)
      refine xg_iload_n (pc := 61) (i := 3) B dE_leaveOut_61 rfl rfl ?_
      refine xg_aload_n (pc := 62) (i := 0) (r := v0) B dE_leaveOut_62 rfl rfl ?_
      refine xg_getr (pc := 63) B dE_leaveOut_63 flE_9 h (fun x7 ex7 h => ?_)
      refine xg_iload_n (pc := 66) (i := 3) B dE_leaveOut_66 rfl rfl ?_
      refine xg_iconst (pc := 67) (v := 1) B dE_leaveOut_67 (by decide) ?_
      refine xg_iadd (pc := 68) B dE_leaveOut_68 ?_
      refine xg_iaload (pc := 69) B dE_leaveOut_69 h (fun x8 ex8 h => ?_)
      refine xg_iastore (pc := 70) B dE_leaveOut_70 h (fun A9 eA9 h => ?_)
      refine xg_iinc (pc := 71) (i := 3) (v := (v3 + 1)) (ls' := [(3, .int (v3 + 1)), (0, xj_rv v0)]) B dE_leaveOut_71 rfl (xj_inc_1 _) (by decide) ⟨xj_nq (a := 0) (i := 3) (by decide), xj_nq (a := 3) (i := 3) (by decide), trivial⟩ rfl ?_
      refine xg_goto (pc := 74) (tgt := 47) B dE_leaveOut_74 (by decide) ?_
      refine xg_sub (ls' := [(0, xj_rv v0), (3, .int (v3 + 1))]) [1, 0] rfl ?_
      exact (wE_leaveOut_47 hl B n) v0 (v3 + 1) A9 h
theorem wE_leaveOut_43 {l : Launch} (hl : l.stackTraces = false) {z : xj_F} (B : xj_B l yE_leaveOut prog_3_method_3_code 4 (some .boolean) [] 1 z) (A : xj_H) (h : fE_leaveOut_43  A = some (xf_r z)) : xj_W l z 43 [] [] A := by
  unfold fE_leaveOut_43 at h
  refine xg_iconst (pc := 43) (v := 0) B dE_leaveOut_43 (by decide) ?_
  exact xg_zret B dE_leaveOut_44 h
theorem wE_leaveOut_26 {l : Launch} (hl : l.stackTraces = false) {z : xj_F} (B : xj_B l yE_leaveOut prog_3_method_3_code 4 (some .boolean) [] 1 z) (v0 : xj_Rf) (v2 : Int32) (A : xj_H) (h : fE_leaveOut_26 v0 v2 A = some (xf_r z)) : xj_W l z 26 [(0, xj_rv v0), (2, .int v2)] [] A := by
  unfold fE_leaveOut_26 at h
  refine xg_iload_n (pc := 26) (i := 2) B dE_leaveOut_26 rfl rfl ?_
  refine xg_aload_n (pc := 27) (i := 0) (r := v0) B dE_leaveOut_27 rfl rfl ?_
  refine xg_geti (pc := 28) B dE_leaveOut_28 flE_25 h (fun x1 ex1 h => ?_)
  refine xg_icmp_ge (pc := 31) (tgt := 43) B dE_leaveOut_31 (by decide) h (fun c31 h => ?_) (fun c31 h => ?_)
  · refine xg_sub (ls' := []) [] rfl ?_
    exact wE_leaveOut_43 hl B  A h
  · refine xg_aload_n (pc := 34) (i := 0) (r := v0) B dE_leaveOut_34 rfl rfl ?_
    refine xg_geti (pc := 35) B dE_leaveOut_35 flE_28 h (fun x2 ex2 h => ?_)
    refine xg_bipush (pc := 38) (v := 12) B dE_leaveOut_38 (by decide) ?_
    refine xg_icmp_lt (pc := 40) (tgt := 45) B dE_leaveOut_40 (by decide) h (fun c40 h => ?_) (fun c40 h => ?_)
    · refine xg_iload_n (pc := 45) (i := 2) B dE_leaveOut_45 rfl rfl ?_
      refine xg_istore_n (pc := 46) (i := 3) (ls' := [(3, .int v2), (0, xj_rv v0), (2, .int v2)]) B dE_leaveOut_46 rfl (by decide) ⟨xj_nq (a := 0) (i := 3) (by decide), fun _ => rfl, trivial⟩ rfl ?_
      refine xg_sub (ls' := [(0, xj_rv v0), (3, .int v2)]) [1, 0] rfl ?_
      exact wE_leaveOut_47 hl B xj_fu v0 v2 A h
    · refine xg_sub (ls' := []) [] rfl ?_
      exact wE_leaveOut_43 hl B  A h
theorem wE_leaveOut_2 {l : Launch} (hl : l.stackTraces = false) {z : xj_F} (B : xj_B l yE_leaveOut prog_3_method_3_code 4 (some .boolean) [] 1 z) : ∀ (n : Nat) (v0 : xj_Rf) (v1 : Int32) (v2 : Int32) (A : xj_H), fE_leaveOut_2 n v0 v1 v2 A = some (xf_r z) → xj_W l z 2 [(0, xj_rv v0), (1, .int v1), (2, .int v2)] [] A
  | 0, _, _, _, _, h => by simp [fE_leaveOut_2] at h
  | n + 1, v0, v1, v2, A, h => by
    rw [fE_leaveOut_2] at h
    refine xg_iload_n (pc := 2) (i := 2) B dE_leaveOut_2 rfl rfl ?_
    refine xg_aload_n (pc := 3) (i := 0) (r := v0) B dE_leaveOut_3 rfl rfl ?_
    refine xg_geti (pc := 4) B dE_leaveOut_4 flE_25 h (fun x1 ex1 h => ?_)
    refine xg_icmp_ge (pc := 7) (tgt := 26) B dE_leaveOut_7 (by decide) h (fun c7 h => ?_) (fun c7 h => ?_)
    · refine xg_sub (ls' := [(0, xj_rv v0), (2, .int v2)]) [0, 2] rfl ?_
      exact wE_leaveOut_26 hl B v0 v2 A h
    · refine xg_aload_n (pc := 10) (i := 0) (r := v0) B dE_leaveOut_10 rfl rfl ?_
      refine xg_getr (pc := 11) B dE_leaveOut_11 flE_9 h (fun x2 ex2 h => ?_)
      refine xg_iload_n (pc := 14) (i := 2) B dE_leaveOut_14 rfl rfl ?_
      refine xg_iaload (pc := 15) B dE_leaveOut_15 h (fun x3 ex3 h => ?_)
      refine xg_iload_n (pc := 16) (i := 1) B dE_leaveOut_16 rfl rfl ?_
      refine xg_icmp_eq (pc := 17) (tgt := 26) B dE_leaveOut_17 (by decide) h (fun c17 h => ?_) (fun c17 h => ?_)
      · refine xg_sub (ls' := [(0, xj_rv v0), (2, .int v2)]) [0, 2] rfl ?_
        exact wE_leaveOut_26 hl B v0 v2 A h
      · refine xg_iinc (pc := 20) (i := 2) (v := (v2 + 1)) (ls' := [(2, .int (v2 + 1)), (0, xj_rv v0), (1, .int v1)]) B dE_leaveOut_20 rfl (xj_inc_1 _) (by decide) ⟨xj_nq (a := 0) (i := 2) (by decide), fun _ => rfl, xj_nq (a := 2) (i := 2) (by decide), trivial⟩ rfl ?_
        refine xg_goto (pc := 23) (tgt := 2) B dE_leaveOut_23 (by decide) ?_
        refine xg_sub (ls' := [(0, xj_rv v0), (1, .int v1), (2, .int (v2 + 1))]) [1, 2, 0] rfl ?_
        exact (wE_leaveOut_2 hl B n) v0 v1 (v2 + 1) A h
theorem wE_leaveOut {l : Launch} (hl : l.stackTraces = false) {z : xj_F} (B : xj_B l yE_leaveOut prog_3_method_3_code 4 (some .boolean) [] 1 z) (v0 : xj_Rf) (v1 : Int32) (A : xj_H) (h : fE_leaveOut v0 v1 A = some (xf_r z)) : xj_W l z 0 [(0, xj_rv v0), (1, .int v1)] [] A := by
  unfold fE_leaveOut at h
  refine xg_iconst (pc := 0) (v := 0) B dE_leaveOut_0 (by decide) ?_
  refine xg_istore_n (pc := 1) (i := 2) (ls' := [(2, .int (0 : Int32)), (0, xj_rv v0), (1, .int v1)]) B dE_leaveOut_1 rfl (by decide) ⟨xj_nq (a := 0) (i := 2) (by decide), fun _ => rfl, trivial⟩ rfl ?_
  refine xg_sub (ls' := [(0, xj_rv v0), (1, .int v1), (2, .int (0 : Int32))]) [1, 2, 0] rfl ?_
  exact wE_leaveOut_2 hl B xj_fu v0 v1 (0 : Int32) A h
theorem cE_leaveOut {l : Launch} (hl : l.stackTraces = false) (v0 : xj_Rf) (v1 : Int32) (A : xj_H) (r : xj_R) (h : fE_leaveOut v0 v1 A = some r) : xj_M l yE_leaveOut prog_3_method_3_code 4 (some .boolean) [] 1 [xj_rv v0, .int v1] A r := by
  refine xj_M.of hl (by decide +kernel) (by simp [lg_sl, xj_ic, xj_lc, xj_rv_cat]) (fun z B hA hr => ?_)
  subst hr
  have hw := wE_leaveOut hl B v0 v1 A h
  simpa [lv_args, xj_ic, xj_lc, xj_rv_cat] using hw
/-! RecurrenceBook.exclude(II)Z -/
def fB_exclude (v0 : xj_Rf) (v1 : Int32) (v2 : Int32) (A : xj_H) : Option xj_R :=
  xj_br (xj_rq A v0 0 (fB_findEvent v0 v1 A)) fun x1 A2 =>
  xj_bi (xj_rq A2 x1 2 (fE_leaveOut x1 v2 A2)) fun x3 A4 =>
  if ¬ x3 = 0 then
    (xj_gr A4 v0 0 2).bind fun x5 =>
    xj_bv (xj_rq A4 x1 2 (fE_settle x1 x5 A4)) fun A6 =>
    xj_rz (1 : Int32) A6
  else
    xj_rz (0 : Int32) A4
theorem wB_exclude {l : Launch} (hl : l.stackTraces = false) {z : xj_F} (B : xj_B l yB_exclude prog_1_method_5_code 4 (some .boolean) [] 7 z) (v0 : xj_Rf) (v1 : Int32) (v2 : Int32) (A : xj_H) (h : fB_exclude v0 v1 v2 A = some (xf_r z)) : xj_W l z 0 [(0, xj_rv v0), (1, .int v1), (2, .int v2)] [] A := by
  unfold fB_exclude at h
  refine xg_aload_n (pc := 0) (i := 0) (r := v0) B dB_exclude_0 rfl rfl ?_
  refine xg_iload_n (pc := 1) (i := 1) B dB_exclude_1 rfl rfl ?_
  obtain ⟨hq2, h⟩ := xj_rq_r h
  refine xg_cr (pc := 2) (av := [xj_rv v0, .int v1]) (st := []) (cy := prog_1_method_14_code) (nLy := 2) (rety := (some (.object "RecurrenceBook$Event"))) (hsy := []) B dB_exclude_2 (xj_go_v B dB_exclude_2 vwB_112 rfl hq2) (xj_vw_c vwB_112) (xj_vw_i vwB_112) (by decide) (by decide) (by decide) rfl (fun r9 h9 => cB_findEvent hl _ _ _ r9 h9) h (fun x1 A2 eA2 h => ?_)
  refine xg_astore_n (pc := 5) (i := 3) (r := x1) (ls' := [(3, xj_rv x1), (0, xj_rv v0), (1, .int v1), (2, .int v2)]) B dB_exclude_5 rfl (by decide) ⟨xj_nq (a := 0) (i := 3) (by decide), xj_nq (a := 1) (i := 3) (by decide), fun _ => rfl, trivial⟩ rfl ?_
  refine xg_aload_n (pc := 6) (i := 3) (r := x1) B dB_exclude_6 rfl rfl ?_
  refine xg_iload_n (pc := 7) (i := 2) B dB_exclude_7 rfl rfl ?_
  obtain ⟨hq8, h⟩ := xj_rq_i h
  refine xg_ci (pc := 8) (av := [xj_rv x1, .int v2]) (st := []) (cy := prog_3_method_3_code) (nLy := 4) (rety := (some .boolean)) (hsy := []) B dB_exclude_8 (xj_go_v B dB_exclude_8 vwB_116 rfl hq8) (xj_vw_c vwB_116) (xj_vw_i vwB_116) (by decide) (by decide) (by decide) rfl (fun r9 h9 => cE_leaveOut hl _ _ _ r9 h9) h (fun x3 A4 eA4 h => ?_)
  refine xg_if_ne (pc := 11) (tgt := 16) B dB_exclude_11 (by decide) h (fun c11 h => ?_) (fun c11 h => ?_)
  · refine xg_aload_n (pc := 16) (i := 3) (r := x1) B dB_exclude_16 rfl rfl ?_
    refine xg_aload_n (pc := 17) (i := 0) (r := v0) B dB_exclude_17 rfl rfl ?_
    refine xg_getr (pc := 18) B dB_exclude_18 flB_20 h (fun x5 ex5 h => ?_)
    obtain ⟨hq21, h⟩ := xj_rq_v h
    refine xg_cv (pc := 21) (av := [xj_rv x1, xj_rv x5]) (st := []) (cy := prog_3_method_4_code) (nLy := 5) (rety := none) (hsy := []) B dB_exclude_21 (xj_go_v B dB_exclude_21 vwB_67 rfl hq21) (xj_vw_c vwB_67) (xj_vw_i vwB_67) (by decide) (by decide) (by decide) rfl (fun r9 h9 => cE_settle hl _ _ _ r9 h9) h (fun A6 eA6 h => ?_)
    refine xg_iconst (pc := 24) (v := 1) B dB_exclude_24 (by decide) ?_
    exact xg_zret B dB_exclude_25 h
  · refine xg_iconst (pc := 14) (v := 0) B dB_exclude_14 (by decide) ?_
    exact xg_zret B dB_exclude_15 h
theorem cB_exclude {l : Launch} (hl : l.stackTraces = false) (v0 : xj_Rf) (v1 : Int32) (v2 : Int32) (A : xj_H) (r : xj_R) (h : fB_exclude v0 v1 v2 A = some r) : xj_M l yB_exclude prog_1_method_5_code 4 (some .boolean) [] 7 [xj_rv v0, .int v1, .int v2] A r := by
  refine xj_M.of hl (by decide +kernel) (by simp [lg_sl, xj_ic, xj_lc, xj_rv_cat]) (fun z B hA hr => ?_)
  subst hr
  have hw := wB_exclude hl B v0 v1 v2 A h
  simpa [lv_args, xj_ic, xj_lc, xj_rv_cat] using hw
/-! RecurrenceBook.times(I)I -/
def fB_times (v0 : xj_Rf) (v1 : Int32) (A : xj_H) : Option xj_R :=
  xj_br (xj_rq A v0 0 (fB_findEvent v0 v1 A)) fun x1 A2 =>
  (xj_gi A2 x1 2 2).bind fun x3 =>
  some (.inl (some (.int x3)), A2)
theorem wB_times {l : Launch} (hl : l.stackTraces = false) {z : xj_F} (B : xj_B l yB_times prog_1_method_6_code 2 (some .int) [] 7 z) (v0 : xj_Rf) (v1 : Int32) (A : xj_H) (h : fB_times v0 v1 A = some (xf_r z)) : xj_W l z 0 [(0, xj_rv v0), (1, .int v1)] [] A := by
  unfold fB_times at h
  refine xg_aload_n (pc := 0) (i := 0) (r := v0) B dB_times_0 rfl rfl ?_
  refine xg_iload_n (pc := 1) (i := 1) B dB_times_1 rfl rfl ?_
  obtain ⟨hq2, h⟩ := xj_rq_r h
  refine xg_cr (pc := 2) (av := [xj_rv v0, .int v1]) (st := []) (cy := prog_1_method_14_code) (nLy := 2) (rety := (some (.object "RecurrenceBook$Event"))) (hsy := []) B dB_times_2 (xj_go_v B dB_times_2 vwB_112 rfl hq2) (xj_vw_c vwB_112) (xj_vw_i vwB_112) (by decide) (by decide) (by decide) rfl (fun r9 h9 => cB_findEvent hl _ _ _ r9 h9) h (fun x1 A2 eA2 h => ?_)
  refine xg_geti (pc := 5) B dB_times_5 flB_119 h (fun x3 ex3 h => ?_)
  exact xg_iret B dB_times_8 h
theorem cB_times {l : Launch} (hl : l.stackTraces = false) (v0 : xj_Rf) (v1 : Int32) (A : xj_H) (r : xj_R) (h : fB_times v0 v1 A = some r) : xj_M l yB_times prog_1_method_6_code 2 (some .int) [] 7 [xj_rv v0, .int v1] A r := by
  refine xj_M.of hl (by decide +kernel) (by simp [lg_sl, xj_ic, xj_lc, xj_rv_cat]) (fun z B hA hr => ?_)
  subst hr
  have hw := wB_times hl B v0 v1 A h
  simpa [lv_args, xj_ic, xj_lc, xj_rv_cat] using hw
/-! RecurrenceBook.findTime(II)I -/
def fB_findTime_18 (A : xj_H) : Option xj_R :=
  xj_th A "java/util/NoSuchElementException"
def fB_findTime (v0 : xj_Rf) (v1 : Int32) (v2 : Int32) (A : xj_H) : Option xj_R :=
  xj_br (xj_rq A v0 0 (fB_findEvent v0 v1 A)) fun x1 A2 =>
  if v2 < 0 then
    fB_findTime_18  A2
  else
    (xj_gi A2 x1 2 2).bind fun x3 =>
    if v2 < x3 then
      (xj_gr A2 x1 2 0).bind fun x4 =>
      (xj_ai A2 x4 0 v2).bind fun x5 =>
      some (.inl (some (.int x5)), A2)
    else
      fB_findTime_18  A2
theorem wB_findTime_18 {l : Launch} (hl : l.stackTraces = false) {z : xj_F} (B : xj_B l yB_findTime prog_1_method_15_code 4 (some .int) [] 7 z) (A : xj_H) (h : fB_findTime_18  A = some (xf_r z)) : xj_W l z 18 [] [] A := by
  unfold fB_findTime_18 at h
  exact xg_throw (pc := 18) B dB_findTime_18 dB_findTime_21 dB_findTime_22 dB_findTime_24 dB_findTime_27 xwB_163_180_167 (by decide) rfl h
theorem wB_findTime {l : Launch} (hl : l.stackTraces = false) {z : xj_F} (B : xj_B l yB_findTime prog_1_method_15_code 4 (some .int) [] 7 z) (v0 : xj_Rf) (v1 : Int32) (v2 : Int32) (A : xj_H) (h : fB_findTime v0 v1 v2 A = some (xf_r z)) : xj_W l z 0 [(0, xj_rv v0), (1, .int v1), (2, .int v2)] [] A := by
  unfold fB_findTime at h
  refine xg_aload_n (pc := 0) (i := 0) (r := v0) B dB_findTime_0 rfl rfl ?_
  refine xg_iload_n (pc := 1) (i := 1) B dB_findTime_1 rfl rfl ?_
  obtain ⟨hq2, h⟩ := xj_rq_r h
  refine xg_cr (pc := 2) (av := [xj_rv v0, .int v1]) (st := []) (cy := prog_1_method_14_code) (nLy := 2) (rety := (some (.object "RecurrenceBook$Event"))) (hsy := []) B dB_findTime_2 (xj_go_v B dB_findTime_2 vwB_112 rfl hq2) (xj_vw_c vwB_112) (xj_vw_i vwB_112) (by decide) (by decide) (by decide) rfl (fun r9 h9 => cB_findEvent hl _ _ _ r9 h9) h (fun x1 A2 eA2 h => ?_)
  refine xg_astore_n (pc := 5) (i := 3) (r := x1) (ls' := [(3, xj_rv x1), (0, xj_rv v0), (1, .int v1), (2, .int v2)]) B dB_findTime_5 rfl (by decide) ⟨xj_nq (a := 0) (i := 3) (by decide), xj_nq (a := 1) (i := 3) (by decide), fun _ => rfl, trivial⟩ rfl ?_
  refine xg_iload_n (pc := 6) (i := 2) B dB_findTime_6 rfl rfl ?_
  refine xg_if_lt (pc := 7) (tgt := 18) B dB_findTime_7 (by decide) h (fun c7 h => ?_) (fun c7 h => ?_)
  · refine xg_sub (ls' := []) [] rfl ?_
    exact wB_findTime_18 hl B  A2 h
  · refine xg_iload_n (pc := 10) (i := 2) B dB_findTime_10 rfl rfl ?_
    refine xg_aload_n (pc := 11) (i := 3) (r := x1) B dB_findTime_11 rfl rfl ?_
    refine xg_geti (pc := 12) B dB_findTime_12 flB_119 h (fun x3 ex3 h => ?_)
    refine xg_icmp_lt (pc := 15) (tgt := 28) B dB_findTime_15 (by decide) h (fun c15 h => ?_) (fun c15 h => ?_)
    · refine xg_aload_n (pc := 28) (i := 3) (r := x1) B dB_findTime_28 rfl rfl ?_
      refine xg_getr (pc := 29) B dB_findTime_29 flB_98 h (fun x4 ex4 h => ?_)
      refine xg_iload_n (pc := 32) (i := 2) B dB_findTime_32 rfl rfl ?_
      refine xg_iaload (pc := 33) B dB_findTime_33 h (fun x5 ex5 h => ?_)
      exact xg_iret B dB_findTime_34 h
    · refine xg_sub (ls' := []) [] rfl ?_
      exact wB_findTime_18 hl B  A2 h
theorem cB_findTime {l : Launch} (hl : l.stackTraces = false) (v0 : xj_Rf) (v1 : Int32) (v2 : Int32) (A : xj_H) (r : xj_R) (h : fB_findTime v0 v1 v2 A = some r) : xj_M l yB_findTime prog_1_method_15_code 4 (some .int) [] 7 [xj_rv v0, .int v1, .int v2] A r := by
  refine xj_M.of hl (by decide +kernel) (by simp [lg_sl, xj_ic, xj_lc, xj_rv_cat]) (fun z B hA hr => ?_)
  subst hr
  have hw := wB_findTime hl B v0 v1 v2 A h
  simpa [lv_args, xj_ic, xj_lc, xj_rv_cat] using hw
/-! RecurrenceBook.day(II)I -/
def fB_day (v0 : xj_Rf) (v1 : Int32) (v2 : Int32) (A : xj_H) : Option xj_R :=
  xj_bi (xj_rq A v0 0 (fB_findTime v0 v1 v2 A)) fun x1 A2 =>
  some (.inl (some (.int x1)), A2)
theorem wB_day {l : Launch} (hl : l.stackTraces = false) {z : xj_F} (B : xj_B l yB_day prog_1_method_7_code 3 (some .int) [] 8 z) (v0 : xj_Rf) (v1 : Int32) (v2 : Int32) (A : xj_H) (h : fB_day v0 v1 v2 A = some (xf_r z)) : xj_W l z 0 [(0, xj_rv v0), (1, .int v1), (2, .int v2)] [] A := by
  unfold fB_day at h
  refine xg_aload_n (pc := 0) (i := 0) (r := v0) B dB_day_0 rfl rfl ?_
  refine xg_iload_n (pc := 1) (i := 1) B dB_day_1 rfl rfl ?_
  refine xg_iload_n (pc := 2) (i := 2) B dB_day_2 rfl rfl ?_
  obtain ⟨hq3, h⟩ := xj_rq_i h
  refine xg_ci (pc := 3) (av := [xj_rv v0, .int v1, .int v2]) (st := []) (cy := prog_1_method_15_code) (nLy := 4) (rety := (some .int)) (hsy := []) B dB_day_3 (xj_go_v B dB_day_3 vwB_122 rfl hq3) (xj_vw_c vwB_122) (xj_vw_i vwB_122) (by decide) (by decide) (by decide) rfl (fun r9 h9 => cB_findTime hl _ _ _ _ r9 h9) h (fun x1 A2 eA2 h => ?_)
  exact xg_iret B dB_day_6 h
theorem cB_day {l : Launch} (hl : l.stackTraces = false) (v0 : xj_Rf) (v1 : Int32) (v2 : Int32) (A : xj_H) (r : xj_R) (h : fB_day v0 v1 v2 A = some r) : xj_M l yB_day prog_1_method_7_code 3 (some .int) [] 8 [xj_rv v0, .int v1, .int v2] A r := by
  refine xj_M.of hl (by decide +kernel) (by simp [lg_sl, xj_ic, xj_lc, xj_rv_cat]) (fun z B hA hr => ?_)
  subst hr
  have hw := wB_day hl B v0 v1 v2 A h
  simpa [lv_args, xj_ic, xj_lc, xj_rv_cat] using hw
/-! RecurrenceBook.moment(II)I -/
def fB_moment (v0 : xj_Rf) (v1 : Int32) (v2 : Int32) (A : xj_H) : Option xj_R :=
  xj_bi (xj_rq A v0 0 (fB_findTime v0 v1 v2 A)) fun x1 A2 =>
  (xj_gr A2 v0 0 2).bind fun x3 =>
  xj_br (xj_rq A2 v0 0 (fB_findEvent v0 v1 A2)) fun x4 A5 =>
  (xj_gi A5 x4 2 4).bind fun x6 =>
  xj_bi (xj_rq A5 x3 1 (fZ_momentOf x3 (((1440 : Int32) * x1) + x6) A5)) fun x7 A8 =>
  some (.inl (some (.int x7)), A8)
theorem wB_moment {l : Launch} (hl : l.stackTraces = false) {z : xj_F} (B : xj_B l yB_moment prog_1_method_8_code 4 (some .int) [] 8 z) (v0 : xj_Rf) (v1 : Int32) (v2 : Int32) (A : xj_H) (h : fB_moment v0 v1 v2 A = some (xf_r z)) : xj_W l z 0 [(0, xj_rv v0), (1, .int v1), (2, .int v2)] [] A := by
  unfold fB_moment at h
  refine xg_aload_n (pc := 0) (i := 0) (r := v0) B dB_moment_0 rfl rfl ?_
  refine xg_iload_n (pc := 1) (i := 1) B dB_moment_1 rfl rfl ?_
  refine xg_iload_n (pc := 2) (i := 2) B dB_moment_2 rfl rfl ?_
  obtain ⟨hq3, h⟩ := xj_rq_i h
  refine xg_ci (pc := 3) (av := [xj_rv v0, .int v1, .int v2]) (st := []) (cy := prog_1_method_15_code) (nLy := 4) (rety := (some .int)) (hsy := []) B dB_moment_3 (xj_go_v B dB_moment_3 vwB_122 rfl hq3) (xj_vw_c vwB_122) (xj_vw_i vwB_122) (by decide) (by decide) (by decide) rfl (fun r9 h9 => cB_findTime hl _ _ _ _ r9 h9) h (fun x1 A2 eA2 h => ?_)
  refine xg_istore_n (pc := 6) (i := 3) (ls' := [(3, .int x1), (0, xj_rv v0), (1, .int v1), (2, .int v2)]) B dB_moment_6 rfl (by decide) ⟨xj_nq (a := 0) (i := 3) (by decide), xj_nq (a := 1) (i := 3) (by decide), fun _ => rfl, trivial⟩ rfl ?_
  refine xg_aload_n (pc := 7) (i := 0) (r := v0) B dB_moment_7 rfl rfl ?_
  refine xg_getr (pc := 8) B dB_moment_8 flB_20 h (fun x3 ex3 h => ?_)
  refine xg_sipush (pc := 11) (v := 1440) B dB_moment_11 (by decide) ?_
  refine xg_iload_n (pc := 14) (i := 3) B dB_moment_14 rfl rfl ?_
  refine xg_imul (pc := 15) B dB_moment_15 ?_
  refine xg_aload_n (pc := 16) (i := 0) (r := v0) B dB_moment_16 rfl rfl ?_
  refine xg_iload_n (pc := 17) (i := 1) B dB_moment_17 rfl rfl ?_
  obtain ⟨hq18, h⟩ := xj_rq_r h
  refine xg_cr (pc := 18) (av := [xj_rv v0, .int v1]) (st := [.int ((1440 : Int32) * x1), xj_rv x3]) (cy := prog_1_method_14_code) (nLy := 2) (rety := (some (.object "RecurrenceBook$Event"))) (hsy := []) B dB_moment_18 (xj_go_v B dB_moment_18 vwB_112 rfl hq18) (xj_vw_c vwB_112) (xj_vw_i vwB_112) (by decide) (by decide) (by simp [xj_ic, xj_lc, xj_rv_cat]) rfl (fun r9 h9 => cB_findEvent hl _ _ _ r9 h9) h (fun x4 A5 eA5 h => ?_)
  refine xg_geti (pc := 21) B dB_moment_21 flB_126 h (fun x6 ex6 h => ?_)
  refine xg_iadd (pc := 24) B dB_moment_24 ?_
  obtain ⟨hq25, h⟩ := xj_rq_i h
  refine xg_ci (pc := 25) (av := [xj_rv x3, .int (((1440 : Int32) * x1) + x6)]) (st := []) (cy := prog_9_method_5_code) (nLy := 2) (rety := (some .int)) (hsy := []) B dB_moment_25 (xj_go_v B dB_moment_25 vwB_129 rfl hq25) (xj_vw_c vwB_129) (xj_vw_i vwB_129) (by decide) (by decide) (by decide) rfl (fun r9 h9 => cZ_momentOf hl _ _ _ r9 h9) h (fun x7 A8 eA8 h => ?_)
  exact xg_iret B dB_moment_28 h
theorem cB_moment {l : Launch} (hl : l.stackTraces = false) (v0 : xj_Rf) (v1 : Int32) (v2 : Int32) (A : xj_H) (r : xj_R) (h : fB_moment v0 v1 v2 A = some r) : xj_M l yB_moment prog_1_method_8_code 4 (some .int) [] 8 [xj_rv v0, .int v1, .int v2] A r := by
  refine xj_M.of hl (by decide +kernel) (by simp [lg_sl, xj_ic, xj_lc, xj_rv_cat]) (fun z B hA hr => ?_)
  subst hr
  have hw := wB_moment hl B v0 v1 v2 A h
  simpa [lv_args, xj_ic, xj_lc, xj_rv_cat] using hw
/-! RecurrenceBook$Zone.offsetAt(I)I -/
def fZ_offsetAt_19 (s0 : Int32) (A : xj_H) : Option xj_R :=
  some (.inl (some (.int s0)), A)
def fZ_offsetAt (v0 : xj_Rf) (v1 : Int32) (A : xj_H) : Option xj_R :=
  xj_bi (xj_rq A v0 1 (fZ_isSummer v0 v1 A)) fun x1 A2 =>
  if x1 = 0 then
    (xj_gi A2 v0 1 0).bind fun x3 =>
    fZ_offsetAt_19 x3 A2
  else
    (xj_gi A2 v0 1 1).bind fun x4 =>
    fZ_offsetAt_19 x4 A2
theorem wZ_offsetAt_19 {l : Launch} (hl : l.stackTraces = false) {z : xj_F} (B : xj_B l yZ_offsetAt prog_9_method_4_code 2 (some .int) [] 3 z) (s0 : Int32) (A : xj_H) (h : fZ_offsetAt_19 s0 A = some (xf_r z)) : xj_W l z 19 [] [.int s0] A := by
  unfold fZ_offsetAt_19 at h
  exact xg_iret B dZ_offsetAt_19 h
theorem wZ_offsetAt {l : Launch} (hl : l.stackTraces = false) {z : xj_F} (B : xj_B l yZ_offsetAt prog_9_method_4_code 2 (some .int) [] 3 z) (v0 : xj_Rf) (v1 : Int32) (A : xj_H) (h : fZ_offsetAt v0 v1 A = some (xf_r z)) : xj_W l z 0 [(0, xj_rv v0), (1, .int v1)] [] A := by
  unfold fZ_offsetAt at h
  refine xg_aload_n (pc := 0) (i := 0) (r := v0) B dZ_offsetAt_0 rfl rfl ?_
  refine xg_iload_n (pc := 1) (i := 1) B dZ_offsetAt_1 rfl rfl ?_
  obtain ⟨hq2, h⟩ := xj_rq_i h
  refine xg_ci (pc := 2) (av := [xj_rv v0, .int v1]) (st := []) (cy := prog_9_method_3_code) (nLy := 5) (rety := (some .boolean)) (hsy := []) B dZ_offsetAt_2 (xj_go_v B dZ_offsetAt_2 vwZ_43 rfl hq2) (xj_vw_c vwZ_43) (xj_vw_i vwZ_43) (by decide) (by decide) (by decide) rfl (fun r9 h9 => cZ_isSummer hl _ _ _ r9 h9) h (fun x1 A2 eA2 h => ?_)
  refine xg_if_eq (pc := 5) (tgt := 15) B dZ_offsetAt_5 (by decide) h (fun c5 h => ?_) (fun c5 h => ?_)
  · refine xg_aload_n (pc := 15) (i := 0) (r := v0) B dZ_offsetAt_15 rfl rfl ?_
    refine xg_geti (pc := 16) B dZ_offsetAt_16 flZ_18 h (fun x3 ex3 h => ?_)
    refine xg_sub (ls' := []) [] rfl ?_
    exact wZ_offsetAt_19 hl B x3 A2 h
  · refine xg_aload_n (pc := 8) (i := 0) (r := v0) B dZ_offsetAt_8 rfl rfl ?_
    refine xg_geti (pc := 9) B dZ_offsetAt_9 flZ_22 h (fun x4 ex4 h => ?_)
    refine xg_goto (pc := 12) (tgt := 19) B dZ_offsetAt_12 (by decide) ?_
    refine xg_sub (ls' := []) [] rfl ?_
    exact wZ_offsetAt_19 hl B x4 A2 h
theorem cZ_offsetAt {l : Launch} (hl : l.stackTraces = false) (v0 : xj_Rf) (v1 : Int32) (A : xj_H) (r : xj_R) (h : fZ_offsetAt v0 v1 A = some r) : xj_M l yZ_offsetAt prog_9_method_4_code 2 (some .int) [] 3 [xj_rv v0, .int v1] A r := by
  refine xj_M.of hl (by decide +kernel) (by simp [lg_sl, xj_ic, xj_lc, xj_rv_cat]) (fun z B hA hr => ?_)
  subst hr
  have hw := wZ_offsetAt hl B v0 v1 A h
  simpa [lv_args, xj_ic, xj_lc, xj_rv_cat] using hw
/-! RecurrenceBook.local(I)I -/
def fB_local (v0 : xj_Rf) (v1 : Int32) (A : xj_H) : Option xj_R :=
  (xj_gr A v0 0 2).bind fun x1 =>
  xj_bi (xj_rq A x1 1 (fZ_offsetAt x1 v1 A)) fun x2 A3 =>
  some (.inl (some (.int (v1 + x2))), A3)
theorem wB_local {l : Launch} (hl : l.stackTraces = false) {z : xj_F} (B : xj_B l yB_local prog_1_method_9_code 2 (some .int) [] 4 z) (v0 : xj_Rf) (v1 : Int32) (A : xj_H) (h : fB_local v0 v1 A = some (xf_r z)) : xj_W l z 0 [(0, xj_rv v0), (1, .int v1)] [] A := by
  unfold fB_local at h
  refine xg_iload_n (pc := 0) (i := 1) B dB_local_0 rfl rfl ?_
  refine xg_aload_n (pc := 1) (i := 0) (r := v0) B dB_local_1 rfl rfl ?_
  refine xg_getr (pc := 2) B dB_local_2 flB_20 h (fun x1 ex1 h => ?_)
  refine xg_iload_n (pc := 5) (i := 1) B dB_local_5 rfl rfl ?_
  obtain ⟨hq6, h⟩ := xj_rq_i h
  refine xg_ci (pc := 6) (av := [xj_rv x1, .int v1]) (st := [.int v1]) (cy := prog_9_method_4_code) (nLy := 2) (rety := (some .int)) (hsy := []) B dB_local_6 (xj_go_v B dB_local_6 vwB_133 rfl hq6) (xj_vw_c vwB_133) (xj_vw_i vwB_133) (by decide) (by decide) (by simp [xj_ic, xj_lc, xj_rv_cat]) rfl (fun r9 h9 => cZ_offsetAt hl _ _ _ r9 h9) h (fun x2 A3 eA3 h => ?_)
  refine xg_iadd (pc := 9) B dB_local_9 ?_
  exact xg_iret B dB_local_10 h
theorem cB_local {l : Launch} (hl : l.stackTraces = false) (v0 : xj_Rf) (v1 : Int32) (A : xj_H) (r : xj_R) (h : fB_local v0 v1 A = some r) : xj_M l yB_local prog_1_method_9_code 2 (some .int) [] 4 [xj_rv v0, .int v1] A r := by
  refine xj_M.of hl (by decide +kernel) (by simp [lg_sl, xj_ic, xj_lc, xj_rv_cat]) (fun z B hA hr => ?_)
  subst hr
  have hw := wB_local hl B v0 v1 A h
  simpa [lv_args, xj_ic, xj_lc, xj_rv_cat] using hw
/-! RecurrenceBook.date(III)I -/
def fB_date (v0 : xj_Rf) (v1 : Int32) (v2 : Int32) (v3 : Int32) (A : xj_H) : Option xj_R :=
  xj_bi (fD_dayOf v1 v2 v3 A) fun x1 A2 =>
  some (.inl (some (.int x1)), A2)
theorem wB_date {l : Launch} (hl : l.stackTraces = false) {z : xj_F} (B : xj_B l yB_date prog_1_method_10_code 4 (some .int) [] 4 z) (v0 : xj_Rf) (v1 : Int32) (v2 : Int32) (v3 : Int32) (A : xj_H) (h : fB_date v0 v1 v2 v3 A = some (xf_r z)) : xj_W l z 0 [(0, xj_rv v0), (1, .int v1), (2, .int v2), (3, .int v3)] [] A := by
  unfold fB_date at h
  refine xg_iload_n (pc := 0) (i := 1) B dB_date_0 rfl rfl ?_
  refine xg_iload_n (pc := 1) (i := 2) B dB_date_1 rfl rfl ?_
  refine xg_iload_n (pc := 2) (i := 3) B dB_date_2 rfl rfl ?_
  refine xg_ci (pc := 3) (av := [.int v1, .int v2, .int v3]) (st := []) (cy := prog_2_method_6_code) (nLy := 5) (rety := (some .int)) (hsy := []) B dB_date_3 (xj_go_s B dB_date_3 swB_136 rfl) swB_136.2.2.1 swB_136.2.2.2.1 (by decide) (by decide) (by decide) rfl (fun r9 h9 => cD_dayOf hl _ _ _ _ r9 h9) h (fun x1 A2 eA2 h => ?_)
  exact xg_iret B dB_date_6 h
theorem cB_date {l : Launch} (hl : l.stackTraces = false) (v0 : xj_Rf) (v1 : Int32) (v2 : Int32) (v3 : Int32) (A : xj_H) (r : xj_R) (h : fB_date v0 v1 v2 v3 A = some r) : xj_M l yB_date prog_1_method_10_code 4 (some .int) [] 4 [xj_rv v0, .int v1, .int v2, .int v3] A r := by
  refine xj_M.of hl (by decide +kernel) (by simp [lg_sl, xj_ic, xj_lc, xj_rv_cat]) (fun z B hA hr => ?_)
  subst hr
  have hw := wB_date hl B v0 v1 v2 v3 A h
  simpa [lv_args, xj_ic, xj_lc, xj_rv_cat] using hw
/-! RecurrenceBook$Spans.open(II)V -/
def fS_open (v0 : xj_Rf) (v1 : Int32) (v2 : Int32) (A : xj_H) : Option xj_R :=
  (xj_pv A v0 3 3 (.int v1)).bind fun A1 =>
  (xj_pv A1 v0 3 4 (.int v2)).bind fun A2 =>
  (xj_pv A2 v0 3 2 (.int (0 : Int32))).bind fun A3 =>
  some (.inl none, A3)
theorem wS_open {l : Launch} (hl : l.stackTraces = false) {z : xj_F} (B : xj_B l yS_open prog_7_method_2_code 3 none [] 1 z) (v0 : xj_Rf) (v1 : Int32) (v2 : Int32) (A : xj_H) (h : fS_open v0 v1 v2 A = some (xf_r z)) : xj_W l z 0 [(0, xj_rv v0), (1, .int v1), (2, .int v2)] [] A := by
  unfold fS_open at h
  refine xg_aload_n (pc := 0) (i := 0) (r := v0) B dS_open_0 rfl rfl ?_
  refine xg_iload_n (pc := 1) (i := 1) B dS_open_1 rfl rfl ?_
  refine xg_puti (pc := 2) B dS_open_2 (fpS_22 _) h (fun A1 eA1 h => ?_)
  refine xg_aload_n (pc := 5) (i := 0) (r := v0) B dS_open_5 rfl rfl ?_
  refine xg_iload_n (pc := 6) (i := 2) B dS_open_6 rfl rfl ?_
  refine xg_puti (pc := 7) B dS_open_7 (fpS_25 _) h (fun A2 eA2 h => ?_)
  refine xg_aload_n (pc := 10) (i := 0) (r := v0) B dS_open_10 rfl rfl ?_
  refine xg_iconst (pc := 11) (v := 0) B dS_open_11 (by decide) ?_
  refine xg_puti (pc := 12) B dS_open_12 (fpS_18 _) h (fun A3 eA3 h => ?_)
  exact xg_vret B dS_open_15 h
theorem cS_open {l : Launch} (hl : l.stackTraces = false) (v0 : xj_Rf) (v1 : Int32) (v2 : Int32) (A : xj_H) (r : xj_R) (h : fS_open v0 v1 v2 A = some r) : xj_M l yS_open prog_7_method_2_code 3 none [] 1 [xj_rv v0, .int v1, .int v2] A r := by
  refine xj_M.of hl (by decide +kernel) (by simp [lg_sl, xj_ic, xj_lc, xj_rv_cat]) (fun z B hA hr => ?_)
  subst hr
  have hw := wS_open hl B v0 v1 v2 A h
  simpa [lv_args, xj_ic, xj_lc, xj_rv_cat] using hw
/-! RecurrenceBook.earliestHead()I -/
def fB_earliestHead_65 (k6 : xj_Rf → Int32 → Int32 → Int32 → xj_H → Option xj_R) (v0 : xj_Rf) (v1 : Int32) (v2 : Int32) (v3 : Int32) (A : xj_H) : Option xj_R :=
  k6 v0 v1 v2 (v3 + 1) A
def fB_earliestHead_60 (k6 : xj_Rf → Int32 → Int32 → Int32 → xj_H → Option xj_R) (v0 : xj_Rf) (v3 : Int32) (v4 : Int32) (A : xj_H) : Option xj_R :=
  fB_earliestHead_65 k6 v0 v3 v4 v3 A
def fB_earliestHead_6 : Nat → xj_Rf → Int32 → Int32 → Int32 → xj_H → Option xj_R
  | 0, _, _, _, _, _ => none
  | n + 1, v0, v1, v2, v3, A =>
    (xj_gi A v0 0 4).bind fun x1 =>
    if x1 ≤ v3 then
      some (.inl (some (.int v1)), A)
    else
      (xj_gr A v0 0 5).bind fun x2 =>
      (xj_ai A x2 0 v3).bind fun x3 =>
      (xj_gr A v0 0 3).bind fun x4 =>
      (xj_ral A x4 v3).bind fun x5 =>
      (xj_gi A x5 2 2).bind fun x6 =>
      if x6 ≤ x3 then
        fB_earliestHead_65 (fB_earliestHead_6 n) v0 v1 v2 v3 A
      else
        (xj_gr A v0 0 3).bind fun x7 =>
        (xj_ral A x7 v3).bind fun x8 =>
        (xj_gr A x8 2 1).bind fun x9 =>
        (xj_gr A v0 0 5).bind fun x10 =>
        (xj_ai A x10 0 v3).bind fun x11 =>
        (xj_ai A x9 0 x11).bind fun x12 =>
        if v1 < 0 then
          fB_earliestHead_60 (fB_earliestHead_6 n) v0 v3 x12 A
        else
          if v2 ≤ x12 then
            fB_earliestHead_65 (fB_earliestHead_6 n) v0 v1 v2 v3 A
          else
            fB_earliestHead_60 (fB_earliestHead_6 n) v0 v3 x12 A
def fB_earliestHead (v0 : xj_Rf) (A : xj_H) : Option xj_R :=
  fB_earliestHead_6 xj_fu v0 (-1 : Int32) (0 : Int32) (0 : Int32) A
theorem wB_earliestHead_65 {l : Launch} (hl : l.stackTraces = false) {z : xj_F} (B : xj_B l yB_earliestHead prog_1_method_16_code 5 (some .int) [] 1 z) (k6 : xj_Rf → Int32 → Int32 → Int32 → xj_H → Option xj_R) (hk6 : ∀ (v0 : xj_Rf) (v1 : Int32) (v2 : Int32) (v3 : Int32) (A : xj_H), k6 v0 v1 v2 v3 A = some (xf_r z) → xj_W l z 6 [(0, xj_rv v0), (1, .int v1), (2, .int v2), (3, .int v3)] [] A) (v0 : xj_Rf) (v1 : Int32) (v2 : Int32) (v3 : Int32) (A : xj_H) (h : fB_earliestHead_65 k6 v0 v1 v2 v3 A = some (xf_r z)) : xj_W l z 65 [(0, xj_rv v0), (1, .int v1), (2, .int v2), (3, .int v3)] [] A := by
  unfold fB_earliestHead_65 at h
  refine xg_iinc (pc := 65) (i := 3) (v := (v3 + 1)) (ls' := [(3, .int (v3 + 1)), (0, xj_rv v0), (1, .int v1), (2, .int v2)]) B dB_earliestHead_65 rfl (xj_inc_1 _) (by decide) ⟨xj_nq (a := 0) (i := 3) (by decide), xj_nq (a := 1) (i := 3) (by decide), fun _ => rfl, xj_nq (a := 3) (i := 3) (by decide), trivial⟩ rfl ?_
  refine xg_goto (pc := 68) (tgt := 6) B dB_earliestHead_68 (by decide) ?_
  refine xg_sub (ls' := [(0, xj_rv v0), (1, .int v1), (2, .int v2), (3, .int (v3 + 1))]) [1, 2, 3, 0] rfl ?_
  exact hk6 v0 v1 v2 (v3 + 1) A h
theorem wB_earliestHead_60 {l : Launch} (hl : l.stackTraces = false) {z : xj_F} (B : xj_B l yB_earliestHead prog_1_method_16_code 5 (some .int) [] 1 z) (k6 : xj_Rf → Int32 → Int32 → Int32 → xj_H → Option xj_R) (hk6 : ∀ (v0 : xj_Rf) (v1 : Int32) (v2 : Int32) (v3 : Int32) (A : xj_H), k6 v0 v1 v2 v3 A = some (xf_r z) → xj_W l z 6 [(0, xj_rv v0), (1, .int v1), (2, .int v2), (3, .int v3)] [] A) (v0 : xj_Rf) (v3 : Int32) (v4 : Int32) (A : xj_H) (h : fB_earliestHead_60 k6 v0 v3 v4 A = some (xf_r z)) : xj_W l z 60 [(0, xj_rv v0), (3, .int v3), (4, .int v4)] [] A := by
  unfold fB_earliestHead_60 at h
  refine xg_iload_n (pc := 60) (i := 3) B dB_earliestHead_60 rfl rfl ?_
  refine xg_istore_n (pc := 61) (i := 1) (ls' := [(1, .int v3), (0, xj_rv v0), (3, .int v3), (4, .int v4)]) B dB_earliestHead_61 rfl (by decide) ⟨fun _ => xj_rv_cat v0, xj_nq (a := 3) (i := 1) (by decide), xj_nq (a := 4) (i := 1) (by decide), trivial⟩ rfl ?_
  refine xg_iload (pc := 62) (i := 4) B dB_earliestHead_62 rfl ?_
  refine xg_istore_n (pc := 64) (i := 2) (ls' := [(2, .int v4), (1, .int v3), (0, xj_rv v0), (3, .int v3), (4, .int v4)]) B dB_earliestHead_64 rfl (by decide) ⟨fun _ => rfl, xj_nq (a := 0) (i := 2) (by decide), xj_nq (a := 3) (i := 2) (by decide), xj_nq (a := 4) (i := 2) (by decide), trivial⟩ rfl ?_
  refine xg_sub (ls' := [(0, xj_rv v0), (1, .int v3), (2, .int v4), (3, .int v3)]) [2, 1, 0, 3] rfl ?_
  exact wB_earliestHead_65 hl B k6 hk6 v0 v3 v4 v3 A h
theorem wB_earliestHead_6 {l : Launch} (hl : l.stackTraces = false) {z : xj_F} (B : xj_B l yB_earliestHead prog_1_method_16_code 5 (some .int) [] 1 z) : ∀ (n : Nat) (v0 : xj_Rf) (v1 : Int32) (v2 : Int32) (v3 : Int32) (A : xj_H), fB_earliestHead_6 n v0 v1 v2 v3 A = some (xf_r z) → xj_W l z 6 [(0, xj_rv v0), (1, .int v1), (2, .int v2), (3, .int v3)] [] A
  | 0, _, _, _, _, _, h => by simp [fB_earliestHead_6] at h
  | n + 1, v0, v1, v2, v3, A, h => by
    rw [fB_earliestHead_6] at h
    refine xg_iload_n (pc := 6) (i := 3) B dB_earliestHead_6 rfl rfl ?_
    refine xg_aload_n (pc := 7) (i := 0) (r := v0) B dB_earliestHead_7 rfl rfl ?_
    refine xg_geti (pc := 8) B dB_earliestHead_8 flB_35 h (fun x1 ex1 h => ?_)
    refine xg_icmp_ge (pc := 11) (tgt := 71) B dB_earliestHead_11 (by decide) h (fun c11 h => ?_) (fun c11 h => ?_)
    · refine xg_iload_n (pc := 71) (i := 1) B dB_earliestHead_71 rfl rfl ?_
      exact xg_iret B dB_earliestHead_72 h
    · refine xg_aload_n (pc := 14) (i := 0) (r := v0) B dB_earliestHead_14 rfl rfl ?_
      refine xg_getr (pc := 15) B dB_earliestHead_15 flB_38 h (fun x2 ex2 h => ?_)
      refine xg_iload_n (pc := 18) (i := 3) B dB_earliestHead_18 rfl rfl ?_
      refine xg_iaload (pc := 19) B dB_earliestHead_19 h (fun x3 ex3 h => ?_)
      refine xg_aload_n (pc := 20) (i := 0) (r := v0) B dB_earliestHead_20 rfl rfl ?_
      refine xg_getr (pc := 21) B dB_earliestHead_21 flB_30 h (fun x4 ex4 h => ?_)
      refine xg_iload_n (pc := 24) (i := 3) B dB_earliestHead_24 rfl rfl ?_
      refine xg_aaload (pc := 25) B dB_earliestHead_25 h (fun x5 ex5 h => ?_)
      refine xg_geti (pc := 26) B dB_earliestHead_26 flB_119 h (fun x6 ex6 h => ?_)
      refine xg_icmp_ge (pc := 29) (tgt := 65) B dB_earliestHead_29 (by decide) h (fun c29 h => ?_) (fun c29 h => ?_)
      · exact wB_earliestHead_65 hl B (fB_earliestHead_6 n) (wB_earliestHead_6 hl B n) v0 v1 v2 v3 A h
      · refine xg_aload_n (pc := 32) (i := 0) (r := v0) B dB_earliestHead_32 rfl rfl ?_
        refine xg_getr (pc := 33) B dB_earliestHead_33 flB_30 h (fun x7 ex7 h => ?_)
        refine xg_iload_n (pc := 36) (i := 3) B dB_earliestHead_36 rfl rfl ?_
        refine xg_aaload (pc := 37) B dB_earliestHead_37 h (fun x8 ex8 h => ?_)
        refine xg_getr (pc := 38) B dB_earliestHead_38 flB_153 h (fun x9 ex9 h => ?_)
        refine xg_aload_n (pc := 41) (i := 0) (r := v0) B dB_earliestHead_41 rfl rfl ?_
        refine xg_getr (pc := 42) B dB_earliestHead_42 flB_38 h (fun x10 ex10 h => ?_)
        refine xg_iload_n (pc := 45) (i := 3) B dB_earliestHead_45 rfl rfl ?_
        refine xg_iaload (pc := 46) B dB_earliestHead_46 h (fun x11 ex11 h => ?_)
        refine xg_iaload (pc := 47) B dB_earliestHead_47 h (fun x12 ex12 h => ?_)
        refine xg_istore (pc := 48) (i := 4) (ls' := [(4, .int x12), (0, xj_rv v0), (1, .int v1), (2, .int v2), (3, .int v3)]) B dB_earliestHead_48 (by decide) ⟨xj_nq (a := 0) (i := 4) (by decide), xj_nq (a := 1) (i := 4) (by decide), xj_nq (a := 2) (i := 4) (by decide), fun _ => rfl, trivial⟩ rfl ?_
        refine xg_iload_n (pc := 50) (i := 1) B dB_earliestHead_50 rfl rfl ?_
        refine xg_if_lt (pc := 51) (tgt := 60) B dB_earliestHead_51 (by decide) h (fun c51 h => ?_) (fun c51 h => ?_)
        · refine xg_sub (ls' := [(0, xj_rv v0), (3, .int v3), (4, .int x12)]) [1, 4, 0] rfl ?_
          exact wB_earliestHead_60 hl B (fB_earliestHead_6 n) (wB_earliestHead_6 hl B n) v0 v3 x12 A h
        · refine xg_iload (pc := 54) (i := 4) B dB_earliestHead_54 rfl ?_
          refine xg_iload_n (pc := 56) (i := 2) B dB_earliestHead_56 rfl rfl ?_
          refine xg_icmp_ge (pc := 57) (tgt := 65) B dB_earliestHead_57 (by decide) h (fun c57 h => ?_) (fun c57 h => ?_)
          · refine xg_sub (ls' := [(0, xj_rv v0), (1, .int v1), (2, .int v2), (3, .int v3)]) [1, 2, 3, 4] rfl ?_
            exact wB_earliestHead_65 hl B (fB_earliestHead_6 n) (wB_earliestHead_6 hl B n) v0 v1 v2 v3 A h
          · refine xg_sub (ls' := [(0, xj_rv v0), (3, .int v3), (4, .int x12)]) [1, 4, 0] rfl ?_
            exact wB_earliestHead_60 hl B (fB_earliestHead_6 n) (wB_earliestHead_6 hl B n) v0 v3 x12 A h
theorem wB_earliestHead {l : Launch} (hl : l.stackTraces = false) {z : xj_F} (B : xj_B l yB_earliestHead prog_1_method_16_code 5 (some .int) [] 1 z) (v0 : xj_Rf) (A : xj_H) (h : fB_earliestHead v0 A = some (xf_r z)) : xj_W l z 0 [(0, xj_rv v0)] [] A := by
  unfold fB_earliestHead at h
  refine xg_iconst (pc := 0) (v := -1) B dB_earliestHead_0 (by decide) ?_
  refine xg_istore_n (pc := 1) (i := 1) (ls' := [(1, .int (-1 : Int32)), (0, xj_rv v0)]) B dB_earliestHead_1 rfl (by decide) ⟨fun _ => xj_rv_cat v0, trivial⟩ rfl ?_
  refine xg_iconst (pc := 2) (v := 0) B dB_earliestHead_2 (by decide) ?_
  refine xg_istore_n (pc := 3) (i := 2) (ls' := [(2, .int (0 : Int32)), (1, .int (-1 : Int32)), (0, xj_rv v0)]) B dB_earliestHead_3 rfl (by decide) ⟨fun _ => rfl, xj_nq (a := 0) (i := 2) (by decide), trivial⟩ rfl ?_
  refine xg_iconst (pc := 4) (v := 0) B dB_earliestHead_4 (by decide) ?_
  refine xg_istore_n (pc := 5) (i := 3) (ls' := [(3, .int (0 : Int32)), (2, .int (0 : Int32)), (1, .int (-1 : Int32)), (0, xj_rv v0)]) B dB_earliestHead_5 rfl (by decide) ⟨fun _ => rfl, xj_nq (a := 1) (i := 3) (by decide), xj_nq (a := 0) (i := 3) (by decide), trivial⟩ rfl ?_
  refine xg_sub (ls' := [(0, xj_rv v0), (1, .int (-1 : Int32)), (2, .int (0 : Int32)), (3, .int (0 : Int32))]) [3, 2, 1, 0] rfl ?_
  exact wB_earliestHead_6 hl B xj_fu v0 (-1 : Int32) (0 : Int32) (0 : Int32) A h
theorem cB_earliestHead {l : Launch} (hl : l.stackTraces = false) (v0 : xj_Rf) (A : xj_H) (r : xj_R) (h : fB_earliestHead v0 A = some r) : xj_M l yB_earliestHead prog_1_method_16_code 5 (some .int) [] 1 [xj_rv v0] A r := by
  refine xj_M.of hl (by decide +kernel) (by simp [lg_sl, xj_ic, xj_lc, xj_rv_cat]) (fun z B hA hr => ?_)
  subst hr
  have hw := wB_earliestHead hl B v0 A h
  simpa [lv_args, xj_ic, xj_lc, xj_rv_cat] using hw

section Xends
variable {l : Launch} {z : xj_F} {y0 : MethodName} {cc : ByteArray} {nL : Nat} {ret : Option FieldType} {hs : List (Nat × Nat × Nat × Nat)} {d pc : Nat} {ls : List (Nat × Value)} {st : List Value} {A : xj_H}
/-! Returning. -/
theorem xj_ends {ad : Nat → Nat} {H : Heap} {locs : List Loc} {cells slots : Nat} {v : Option Value} (hI : xj_I z ad A H locs cells slots) (hr : xf_r z = (.inl v, A)) (hv : ∀ w, v = some w → xj_wv A.1.length w) {t : State}
    (h : MQ (xf_b z) (fun _ _ o t => o = .returned (v.map (xj_v (xf_g z) ad)) ∧ t.heap = H) (xf_a z) (xf_s z) cells slots (xj_al (xf_g z) (xf_d z) (xf_H z) (xf_s z)) t) : xj_Q z t := by
  obtain ⟨o, hrun, hend, ⟨ho, hh⟩, L, ⟨-, hW, hsame⟩, hL⟩ := h
  refine ⟨o, hrun, hend, ad, L, cells, slots, hI.1, ?_, ?_, ?_, ?_, hI.2.2.2.2.2.1.F hh, hW, hsame, hL, ?_, ?_, ?_⟩
  · rw [hr]; exact hI.2.1
  · rw [hr, hh]; exact hI.2.2.1
  · rw [hr]; exact hI.2.2.2.1
  · rw [hr]; exact hI.2.2.2.2.1
  · rw [hr]; exact hI.2.2.2.2.2.2.1
  · rw [hr]; exact hI.2.2.2.2.2.2.2
  · rw [hr]; exact ⟨ho, hv⟩
theorem xg_iret (B : xj_B l y0 cc nL (some .int) hs d z) {x : Int32} (hd : decode cc pc = .ok (.ireturn, 1)) (h : some ((.inl (some (.int x)), A) : xj_R) = some (xf_r z)) : xj_W l z pc ls [.int x] A := by
  intro ad H locs cells slots lz hI hls hst hlv
  have hr := (Option.some.inj h).symm
  refine xw_mono (W.iret (Qc := fun _ _ o t => o = .returned ((some (Value.int x)).map (xj_v (xf_g z) ad)) ∧ t.heap = H) (free := xj_al (xf_g z) (xf_d z) (xf_H z) (xf_s z)) B.1 B.2.1 B.2.2.2.1 (fun t ht _ => ⟨rfl, ht⟩) hI.2.2.2.2.2.1.2.2 hd B.2.2.2.2.1) (fun t ht => ?_)
  exact xj_ends hI hr (fun w hw => by cases hw; trivial) ht
theorem xg_zret (B : xj_B l y0 cc nL (some .boolean) hs d z) {x : Int32} (hd : decode cc pc = .ok (.ireturn, 1)) (h : xj_rz x A = some (xf_r z)) : xj_W l z pc ls [.int x] A := by
  intro ad H locs cells slots lz hI hls hst hlv
  unfold xj_rz at h
  by_cases hz : x = 0 ∨ x = 1
  · rw [if_pos hz] at h
    have hr := (Option.some.inj h).symm
    refine xw_mono (W.zret (ty := .boolean) (Qc := fun _ _ o t => o = .returned ((some (Value.int x)).map (xj_v (xf_g z) ad)) ∧ t.heap = H) (free := xj_al (xf_g z) (xf_d z) (xf_H z) (xf_s z)) B.1 B.2.1 B.2.2.2.1 (by rcases hz with rfl | rfl <;> rfl) (fun t ht _ => ⟨rfl, ht⟩) hI.2.2.2.2.2.1.2.2 hd B.2.2.2.2.1) (fun t ht => ?_)
    exact xj_ends hI hr (fun w hw => by cases hw; trivial) ht
  · rw [if_neg hz] at h
    cases h
theorem xg_lret (B : xj_B l y0 cc nL (some .long) hs d z) {x : Int64} (hd : decode cc pc = .ok (.lreturn, 1)) (h : some ((.inl (some (.long x)), A) : xj_R) = some (xf_r z)) : xj_W l z pc ls [.long x] A := by
  intro ad H locs cells slots lz hI hls hst hlv
  have hr := (Option.some.inj h).symm
  refine xw_mono (W.lret (Qc := fun _ _ o t => o = .returned ((some (Value.long x)).map (xj_v (xf_g z) ad)) ∧ t.heap = H) (free := xj_al (xf_g z) (xf_d z) (xf_H z) (xf_s z)) B.1 B.2.1 B.2.2.2.1 (fun t ht _ => ⟨rfl, ht⟩) hI.2.2.2.2.2.1.2.2 hd B.2.2.2.2.1) (fun t ht => ?_)
  exact xj_ends hI hr (fun w hw => by cases hw; trivial) ht
theorem xg_vret (B : xj_B l y0 cc nL none hs d z) (hd : decode cc pc = .ok (.return_, 1)) (h : some ((.inl none, A) : xj_R) = some (xf_r z)) : xj_W l z pc ls [] A := by
  intro ad H locs cells slots lz hI hls hst hlv
  have hr := (Option.some.inj h).symm
  refine xw_mono (W.vret (Qc := fun _ _ o t => o = .returned ((none : Option Value).map (xj_v (xf_g z) ad)) ∧ t.heap = H) (free := xj_al (xf_g z) (xf_d z) (xf_H z) (xf_s z)) B.1 B.2.1 B.2.2.2.1 (fun t ht _ => ⟨rfl, ht⟩) hI.2.2.2.2.2.1.2.2 hd B.2.2.2.2.1) (fun t ht => ?_)
  exact xj_ends hI hr (fun w hw => by cases hw) ht
theorem xg_aret {rt : FieldType} (B : xj_B l y0 cc nL (some rt) hs d z) (hrt : (∃ n, rt = .object n) ∨ ∃ t, rt = .array t) {r : xj_Rf} (hd : decode cc pc = .ok (.areturn, 1)) (h : some ((.inl (some (xj_rv r)), A) : xj_R) = some (xf_r z)) : xj_W l z pc ls [xj_rv r] A := by
  intro ad H locs cells slots lz hI hls hst hlv
  have hr := (Option.some.inj h).symm
  refine xw_mono (W.aret (v := xj_v (xf_g z) ad (xj_rv r)) (Qc := fun _ _ o t => o = .returned ((some (xj_rv r)).map (xj_v (xf_g z) ad)) ∧ t.heap = H) (free := xj_al (xf_g z) (xf_d z) (xf_H z) (xf_s z)) B.1 B.2.1 B.2.2.2.1 hrt ?_ (fun t ht _ => ⟨rfl, ht⟩) hI.2.2.2.2.2.1.2.2 hd B.2.2.2.2.1) (fun t ht => ?_)
  · match r with
    | none => exact Or.inl rfl
    | some (.inl j) => exact Or.inr ⟨_, rfl⟩
    | some (.inr j) => exact Or.inr ⟨_, rfl⟩
  · exact xj_ends hI hr (fun w hw => by cases hw; exact hst.1) ht
/-! Making. -/
theorem xj_mk_inv {x : xj_C} {n : Nat} {A' : xj_H} (h : xj_mk A x n = some A') : 1 ≤ A.2.1 ∧ n ≤ A.2.2 ∧ A' = (A.1 ++ [x], A.2.1 - 1, A.2.2 - n) := by
  unfold xj_mk at h
  by_cases hc : 1 ≤ A.2.1 ∧ n ≤ A.2.2
  · rw [if_pos hc] at h
    exact ⟨hc.1, hc.2, (Option.some.inj h).symm⟩
  · rw [if_neg hc] at h
    cases h
def xj_ext (ad : Nat → Nat) (n q : Nat) : Nat → Nat := fun k => if k = n then q else ad k
theorem xj_ext_lt {ad : Nat → Nat} {n q k : Nat} (h : k < n) : xj_ext ad n q k = ad k := by
  unfold xj_ext
  rw [if_neg (by omega)]
theorem xj_w_ext {g : xj_G} {ad : Nat → Nat} {Ac : List xj_C} {x : xj_C} {q : Nat} (hw : ∀ y ∈ Ac, xj_wc Ac.length y) (hx : ∀ ad', xj_c g ad' x = xj_c g ad x) : xj_w g (xj_ext ad Ac.length q) (Ac ++ [x]) = xj_w g ad Ac ++ [(q, xj_c g ad x)] := by
  rw [xj_w_push, xj_w_same (fun k hk => xj_ext_lt hk) hw, hx]
  simp [xj_ext]
/-- behind a making: the same frame with one cell more -/
theorem xj_made {ad : Nat → Nat} {H H1 : Heap} {locs : List Loc} {cells slots n q : Nat} {x : xj_C} {lz : Array Slot} {pc' : Nat} (hI : xj_I z ad A H locs cells slots) (hls : xj_wls A.1.length ls) (hst : xj_wst A.1.length st)
    (hlv : lv_has lz (xf_c z).maxLocals (ls.map (fun q => (q.1, xj_v (xf_g z) ad q.2)))) (hx : ∀ ad', xj_c (xf_g z) ad' x = xj_c (xf_g z) ad x) (hwx : xj_wc (A.1.length + 1) x) (h1 : 1 ≤ A.2.1) (h2 : n ≤ A.2.2)
    (hP : va_P (xf_g z).1 xj_cl (xj_w (xf_g z) ad A.1 ++ [(q, xj_c (xf_g z) ad x)]) H1) (hD : va_D (xj_al (xf_g z) (xf_d z) (xf_H z) (xf_s z)) (xj_w (xf_g z) ad A.1 ++ [(q, xj_c (xf_g z) ad x)]))
    (hS : va_S (xj_al (xf_g z) (xf_d z) (xf_H z) (xf_s z)) (xf_s z).heap H1 locs)
    (k : xj_W l z pc' ls (xj_rv (xj_o A.1.length) :: st) (A.1 ++ [x], A.2.1 - 1, A.2.2 - n)) :
    W (xf_p z) l (xf_e z) (xf_R z) (xf_s z) (xf_m z) (xf_a z) (xf_b z) (xf_t z) (xf_c z) H1 locs (cells + 1) (slots + n) (xj_Q z) (F0 (xf_m z) pc' lz (.ref q :: st.map (xj_v (xf_g z) ad))) := by
  have hle : A.1.length ≤ (A.1 ++ [x]).length := by simp
  have hk := k (xj_ext ad A.1.length q) H1 locs (cells + 1) (slots + n) lz ?_ (xj_wls_mono hle hls) ⟨?_, xj_wst_mono hle hst⟩ ?_
  · have he : (xj_rv (xj_o A.1.length) :: st).map (xj_v (xf_g z) (xj_ext ad A.1.length q)) = .ref q :: st.map (xj_v (xf_g z) ad) := by
      rw [List.map_cons, xj_st_same (fun k hk => xj_ext_lt hk) hst]
      simp [xj_rv, xj_o, xj_v, xj_ext]
    rw [he] at hk
    exact hk
  · obtain ⟨i1, i2, i3, i4, i5, i6, i7, i8⟩ := hI
    refine ⟨fun j hj => ?_, ?_, ?_, ?_, ?_, hS, ?_, ?_⟩
    · rw [xj_ext_lt (Nat.lt_of_lt_of_le hj i2)]; exact i1 j hj
    · exact Nat.le_trans i2 hle
    · rw [xj_w_ext i5 hx]; exact hP
    · rw [xj_w_ext i5 hx]; exact hD
    · intro y hy
      rcases List.mem_append.mp hy with hy | hy
      · exact xj_wc_mono hle (i5 y hy)
      · rw [List.mem_singleton.mp hy]
        show xj_wc (A.1 ++ [x]).length x
        rw [List.length_append]
        exact hwx
    · show cells + 1 + (A.2.1 - 1) ≤ _
      omega
    · show slots + n + (A.2.2 - n) ≤ _
      omega
  · show A.1.length < (A.1 ++ [x]).length
    simp
  · rw [xj_ls_same (fun k hk => xj_ext_lt hk) hls]; exact hlv
def xj_pl : List Value → Bool
  | [] => true
  | .int _ :: r => xj_pl r
  | .long _ :: r => xj_pl r
  | .null :: r => xj_pl r
  | _ :: _ => false
theorem xj_pl_same (g : xj_G) (ad : Nat → Nat) : ∀ {fs : List Value}, xj_pl fs = true → fs.map (xj_v g ad) = fs
  | [], _ => rfl
  | .int _ :: r, h => by rw [List.map_cons, xj_pl_same g ad (fs := r) h]; rfl
  | .long _ :: r, h => by rw [List.map_cons, xj_pl_same g ad (fs := r) h]; rfl
  | .null :: r, h => by rw [List.map_cons, xj_pl_same g ad (fs := r) h]; rfl
theorem xj_pl_wf {n : Nat} : ∀ {fs : List Value}, xj_pl fs = true → ∀ v ∈ fs, xj_wv n v
  | .int _ :: r, h, v, hv => by
    rcases List.mem_cons.mp hv with rfl | hv
    · trivial
    · exact xj_pl_wf (fs := r) h v hv
  | .long _ :: r, h, v, hv => by
    rcases List.mem_cons.mp hv with rfl | hv
    · trivial
    · exact xj_pl_wf (fs := r) h v hv
  | .null :: r, h, v, hv => by
    rcases List.mem_cons.mp hv with rfl | hv
    · trivial
    · exact xj_pl_wf (fs := r) h v hv
def xj_nk (own : String) (index ci N : Nat) (fs : List Value) : Prop := ∃ (C : String) (T : u_T) (ty : Nat → FieldType), xj_cl[ci]? = some (C, T, N) ∧ (∀ w ∈ u_ws C T N, w ∈ xj_ws) ∧ (∀ j, j < N → parseFieldDescriptor (T j).2.2.1 = some (ty j)) ∧ Cond.classLink own index C ∈ xj_ws ∧ Cond.instantiable C N ∈ xj_ws ∧ Cond.initialized C ∈ xj_ws ∧ (∀ j, j < N → defaultValue (ty j) = vp_V fs j) ∧ xj_pl fs = true
theorem xg_new (B : xj_B l y0 cc nL ret hs d z) {index ci N : Nat} {fs : List Value} {K : xj_H → Option xj_R} (hd : decode cc pc = .ok (.new index, 3)) (hf : xj_nk y0.cls index ci N fs) (h : (xj_mk A (.inr (ci, fs)) N).bind K = some (xf_r z)) (kk : ∀ A', xj_mk A (.inr (ci, fs)) N = some A' → K A' = some (xf_r z) → xj_W l z (pc + 3) ls (xj_rv (xj_o A.1.length) :: st) A') : xj_W l z pc ls st A := by
  obtain ⟨A', h1, h2⟩ := Option.bind_eq_some_iff.mp h
  have k := kk A' h1 h2
  obtain ⟨g1, g2, rfl⟩ := xj_mk_inv h1
  obtain ⟨C, T, ty, hc, hin, hty, w1, w2, w3, hdf, hpl⟩ := hf
  intro ad H locs cells slots lz hI hls hst hlv
  obtain ⟨hx, hb, hml, hr, hlo, htab, hown, hnm, hT, hK, hS, hP0, hR, htr⟩ := B
  have hc0 : ∀ ad', xj_c (xf_g z) ad' (.inr (ci, fs)) = .inr (ci, fs) := fun ad' => by simp only [xj_c, xj_pl_same _ _ hpl]
  refine va_new (Ts := xj_ws) (c0 := xf_c z) hx hb (fun w h => hT.1 w h _) hin ty hty hown (hT.1 _ w1 _) (hT.1 _ w2 _) (hT.1 _ w3 _) hK hI.2.2.1 hI.2.2.2.1 hI.2.2.2.2.2.1 (fun q hq => Or.inr hq) hc hdf ?_ ?_ hd (fun q H1 p1 p2 p3 => ?_)
  · rw [hR]; show cells + 1 ≤ (xf_H z).2.1; have := hI.2.2.2.2.2.2.1; omega
  · rw [hR]; show slots + N ≤ (xf_H z).2.2; have := hI.2.2.2.2.2.2.2; omega
  · exact xj_made (x := .inr (ci, fs)) hI hls hst hlv (fun ad' => by rw [hc0, hc0]) (xj_pl_wf hpl) g1 g2 (by rw [hc0]; exact p1) (by rw [hc0]; exact p2) p3 k
theorem xj_cA {g : xj_G} {U : State} {t : Nat} {ty : FieldType} {cA : ClassId} (ht : (xj_tys g)[t]? = some (g.2.1 t, ty)) (hty : ∀ C, ty ≠ .object C) (hK : va_K g.1 xj_cl (xj_tys g) U) (hK' : va_K g.1 xj_cl (xj_tys g ++ [(cA, ty)]) U) : cA = g.2.1 t := by
  have h1 := (hK.2 t _ ht).2
  have h2 := (hK'.2 (xj_tys g).length (cA, ty) (by simp)).2
  cases ty with
  | object C => exact absurd rfl (hty C)
  | _ => exact Option.some.inj (h2.symm.trans h1)
theorem xj_cAo {g : xj_G} {U : State} {t : Nat} {C : String} {cA : ClassId} (ht : (xj_tys g)[t]? = some (g.2.1 t, .object C)) (hK : va_K g.1 xj_cl (xj_tys g) U) (hK' : va_K g.1 xj_cl (xj_tys g ++ [(cA, .object C)]) U) : cA = g.2.1 t := by
  obtain ⟨_, _, -, -, -, h1⟩ := (hK.2 t _ ht).2
  obtain ⟨_, _, -, -, -, h2⟩ := (hK'.2 (xj_tys g).length (cA, .object C) (by simp)).2
  exact Option.some.inj (h2.symm.trans h1)
theorem xg_newa (B : xj_B l y0 cc nL ret hs d z) {atype : ArrayType} {ty : FieldType} {t N : Nat} {n : Int32} {a1 : (Nat → Int32) ⊕ (Nat → Int64) ⊕ (Nat → UInt32) ⊕ (Nat → UInt64) ⊕ (Nat → Option Nat)} {K : xj_H → Option xj_R} (hd : decode cc pc = .ok (.newarray atype, 2)) (hta : newarray.typeOf atype = ty) (ht : ∀ g, (xj_tys g)[t]? = some (g.2.1 t, ty)) (hty : ∀ C, ty ≠ .object C) (hw : Cond.arrayClass ty ∈ xj_ws)
    (ha : ∀ cA : ClassId, vp_cell cA (N, a1) = arrV cA N (fun _ => defaultValue ty)) (hax : ∀ g ad, xj_c g ad (.inl (t, N, a1)) = .inl (g.2.1 t, N, a1)) (hawf : ∀ k, xj_wc k (.inl (t, N, a1))) (hn : ¬ n < 0) (hN : n.toNatClampNeg = N) (hby : N * componentBytes ty ≤ 536870912)
    (h : (xj_mk A (.inl (t, N, a1)) N).bind K = some (xf_r z)) (kk : ∀ A', xj_mk A (.inl (t, N, a1)) N = some A' → K A' = some (xf_r z) → xj_W l z (pc + 2) ls (xj_rv (xj_o A.1.length) :: st) A') : xj_W l z pc ls (.int n :: st) A := by
  obtain ⟨A', h1, h2⟩ := Option.bind_eq_some_iff.mp h
  have k := kk A' h1 h2
  obtain ⟨g1, g2, rfl⟩ := xj_mk_inv h1
  intro ad H locs cells slots lz hI hls hst hlv
  obtain ⟨hx, hb, hml, hr, hlo, htab, hown, hnm, hT, hK, hS, hP0, hR, htr⟩ := B
  refine va_newa (a0 := (N, a1)) (ty := ty) hx hb (by rw [hta]; exact hT.1 _ hw _) hta hK hI.2.2.1 hI.2.2.2.1 hI.2.2.2.2.2.1 (fun q hq => Or.inr hq) ha hn hN hby ?_ ?_ hd (fun q cA H1 p0 p1 p2 p3 => ?_)
  · rw [hR]; show cells + 1 ≤ (xf_H z).2.1; have := hI.2.2.2.2.2.2.1; omega
  · rw [hR]; show slots + N ≤ (xf_H z).2.2; have := hI.2.2.2.2.2.2.2; omega
  · have hcA := xj_cA (ht _) hty hK p0
    subst hcA
    exact xj_made (x := .inl (t, N, a1)) hI hls hst.2 hlv (fun ad' => by rw [hax, hax]) (hawf _) g1 g2 (by rw [hax]; exact p1) (by rw [hax]; exact p2) p3 k
theorem xg_newq (B : xj_B l y0 cc nL ret hs d z) {index N : Nat} {n : Int32} {K : xj_H → Option xj_R} (hd : decode cc pc = .ok (.anewarray index, 3)) (hw : Cond.classLink y0.cls index xj_en ∈ xj_ws) (hn : ¬ n < 0) (hN : n.toNatClampNeg = N) (hby : N * 4 ≤ 536870912)
    (h : (xj_mk A (.inl (4, N, .inr (.inr (.inr (.inr (fun _ => none)))))) N).bind K = some (xf_r z)) (kk : ∀ A', xj_mk A (.inl (4, N, .inr (.inr (.inr (.inr (fun _ => none)))))) N = some A' → K A' = some (xf_r z) → xj_W l z (pc + 3) ls (xj_rv (xj_o A.1.length) :: st) A') : xj_W l z pc ls (.int n :: st) A := by
  obtain ⟨A', h1, h2⟩ := Option.bind_eq_some_iff.mp h
  have k := kk A' h1 h2
  obtain ⟨g1, g2, rfl⟩ := xj_mk_inv h1
  intro ad H locs cells slots lz hI hls hst hlv
  obtain ⟨hx, hb, hml, hr, hlo, htab, hown, hnm, hT, hK, hS, hP0, hR, htr⟩ := B
  refine va_newq (C := xj_en) hx hb hown (hT.1 _ hw _) hS.2.1 hK hI.2.2.1 hI.2.2.2.1 hI.2.2.2.2.2.1 (fun q hq => Or.inr hq) hn hN hby ?_ ?_ hd (fun q cA H1 p0 p1 p2 p3 => ?_)
  · rw [hR]; show cells + 1 ≤ (xf_H z).2.1; have := hI.2.2.2.2.2.2.1; omega
  · rw [hR]; show slots + N ≤ (xf_H z).2.2; have := hI.2.2.2.2.2.2.2; omega
  · have hcA := xj_cAo (t := 4) rfl hK p0
    subst hcA
    exact xj_made (x := .inl (4, N, .inr (.inr (.inr (.inr (fun _ => none)))))) hI hls hst.2 hlv (fun ad' => rfl) (fun _ _ h => by cases h) g1 g2 p1 p2 p3 k
/-! Object's own constructor. -/
theorem xg_objInit (B : xj_B l y0 cc nL ret hs d z) {index : Nat} {o : xj_Rf} {a : Nat} (ho : o = some (.inl a)) (hd : decode cc pc = .ok (.invokespecial index, 3)) (w1 : Cond.methodLink y0.cls index Lib.objectInit ∈ xj_ws) (w2 : Cond.instanceMethod Lib.objectInit ∈ xj_ws) (w3 : Cond.code Lib.objectInit ⟨#[0xb1]⟩ 1 none ∈ xj_ws) (hdp : 1 ≤ d) (hst8 : (st.map fun v => v.category).sum ≤ 8) (k : xj_W l z (pc + 3) ls st A) : xj_W l z pc ls (xj_rv o :: st) A := by
  subst ho
  intro ad H locs cells slots lz hI hls hst hlv
  obtain ⟨hx, hb, hml, hr, hlo, htab, hown, hnm, hT, hK, hS, hP0, hR, htr⟩ := B
  refine W.objInit hx hb hown (hT.1 _ w1 _) (hT.1 _ w2 _) (hT.1 _ w3 _) (g := F0 (xf_m z) pc lz ((xj_rv (some (.inl a)) :: st).map (xj_v (xf_g z) ad))) rfl hlv.1 rfl hd ?_ ?_ (k ad H locs cells slots lz hI hls hst.2 hlv)
  · rw [hR]; exact hdp
  · rw [hR]
    have h8 : ((st.map (xj_v (xf_g z) ad)).map fun v => v.category).sum ≤ 8 := by
      rw [List.map_map]
      have : ((fun v : Value => v.category) ∘ xj_v (xf_g z) ad) = fun v => v.category := funext fun v => xj_v_cat _ _ v
      rw [this]; exact hst8
    have := lv_room (m := xf_m z) (pc := pc) (ls := lz) (rest := (xj_rv (some (.inl a)) :: st).map (xj_v (xf_g z) ad)) h8
    show _ + 12 ≤ 40 * d
    omega
end Xends

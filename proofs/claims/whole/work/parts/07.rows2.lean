section Xheap
variable {l : Launch} {z : xj_F} {y0 : MethodName} {cc : ByteArray} {nL : Nat} {ret : Option FieldType} {hs : List (Nat × Nat × Nat × Nat)} {d pc : Nat} {ls : List (Nat × Value)} {st : List Value} {A : xj_H}
theorem xw_mono {p : Program} {e : Env} {R : Room} {s : State} {m : MethodId} {args : Array Value} {below : List Frame} {meth : Method} {c : Code} {H : Heap} {locs : List Loc} {cells slots : Nat} {Q Q' : State → Prop} {g : JFrame}
    (h : W p l e R s m args below meth c H locs cells slots Q g) (hq : ∀ t, Q t → Q' t) : W p l e R s m args below meth c H locs cells slots Q' g := fun T hT X => by
  obtain ⟨t, a, b⟩ := h T hT X
  exact ⟨t, a, hq t b⟩
theorem xj_gv_inv {o : xj_Rf} {ci k : Nat} {v : Value} (h : xj_gv A o ci k = some v) : ∃ (a : Nat) (fs : List Value), o = some (.inl a) ∧ A.1[a]? = some (.inr (ci, fs)) ∧ fs[k]? = some v := by
  unfold xj_gv at h
  split at h
  · rename_i a
    split at h
    · rename_i q hq
      by_cases hc : q.1 = ci
      · rw [if_pos hc] at h
        exact ⟨a, q.2, rfl, by rw [hq, ← hc], h⟩
      · rw [if_neg hc] at h
        cases h
    · cases h
  · cases h
theorem xj_gi_inv {o : xj_Rf} {ci k : Nat} {x : Int32} (h : xj_gi A o ci k = some x) : xj_gv A o ci k = some (.int x) := by
  unfold xj_gi at h
  split at h
  · rename_i y hy
    cases h
    exact hy
  · cases h
theorem xj_gl_inv {o : xj_Rf} {ci k : Nat} {x : Int64} (h : xj_gl A o ci k = some x) : xj_gv A o ci k = some (.long x) := by
  unfold xj_gl at h
  split at h
  · rename_i y hy
    cases h
    exact hy
  · cases h
theorem xj_vr_inv {v : Value} {r : xj_Rf} (h : xj_vr v = some r) : v = xj_rv r := by
  cases v <;> simp only [xj_vr, Option.some.injEq, reduceCtorEq] at h <;> subst h <;> rfl
theorem xj_gr_inv {o : xj_Rf} {ci k : Nat} {r : xj_Rf} (h : xj_gr A o ci k = some r) : xj_gv A o ci k = some (xj_rv r) := by
  unfold xj_gr at h
  obtain ⟨v, h1, h2⟩ := Option.bind_eq_some_iff.mp h
  rw [h1, xj_vr_inv h2]
def xj_fl (own : String) (index ci k : Nat) : Prop := ∃ (C : String) (T : u_T) (N : Nat), xj_cl[ci]? = some (C, T, N) ∧ k < N ∧ (∀ w ∈ u_ws C T N, w ∈ xj_ws) ∧
  (Cond.fieldLink own index (T k).1 (T k).2.1 (T k).2.2.1 ∈ xj_ws ∨ ∃ host, Cond.fieldLinkNest own index (T k).1 (T k).2.1 (T k).2.2.1 host ∈ xj_nw)
theorem xj_mem_wc {ad : Nat → Nat} {H : Heap} {locs : List Loc} {cells slots : Nat} (hI : xj_I z ad A H locs cells slots) {a : Nat} {x : xj_C} (h : A.1[a]? = some x) : xj_wc A.1.length x := hI.2.2.2.2.1 x (List.mem_of_getElem? h)
theorem xg_getv (B : xj_B l y0 cc nL ret hs d z) {o : xj_Rf} {ci k index : Nat} {v : Value} (hd : decode cc pc = .ok (.getfield index, 3)) (hf : xj_fl y0.cls index ci k) (hv : xj_gv A o ci k = some v) (kk : xj_W l z (pc + 3) ls (v :: st) A) : xj_W l z pc ls (xj_rv o :: st) A := by
  intro ad H locs cells slots lz hI hls hst hlv
  obtain ⟨a, fs, rfl, ha, hk⟩ := xj_gv_inv hv
  obtain ⟨C, T, N, hc, hN, hin, hlk⟩ := hf
  obtain ⟨hx, hb, hml, hr, hlo, htab, hown, hnm, hT, hK, hrest⟩ := B
  have he : (xj_w (xf_g z) ad A.1)[a]? = some (ad a, .inr (ci, fs.map (xj_v (xf_g z) ad))) := xj_w_at ha
  have hv' : (fs.map (xj_v (xf_g z) ad))[k]? = some (xj_v (xf_g z) ad v) := by rw [List.getElem?_map, hk]; rfl
  have hw : xj_wv A.1.length v := (xj_mem_wc hI ha) v (List.mem_of_getElem? hk)
  have hkk := kk ad H locs cells slots lz hI hls ⟨hw, hst.2⟩ hlv
  rcases hlk with hlk | ⟨host, hlk⟩
  · exact va_get (Ts := xj_ws) hx hb (fun w h => hT.1 w h _) hin hown hK hI.2.2.1 a he hc k hN (hT.1 _ hlk _) (fun _ h => h) hv' hd hkk
  · exact va_getN (Ts := xj_ws) hx hb (fun w h => hT.1 w h _) hin hown hK hI.2.2.1 a he hc k hN (va_Nw.use rfl (hT.2 _ hlk)) (fun _ h => h) hv' hd hkk
theorem xg_geti (B : xj_B l y0 cc nL ret hs d z) {o : xj_Rf} {ci k index : Nat} {K : Int32 → Option xj_R} (hd : decode cc pc = .ok (.getfield index, 3)) (hf : xj_fl y0.cls index ci k) (h : (xj_gi A o ci k).bind K = some (xf_r z)) (kk : ∀ x, xj_gi A o ci k = some x → K x = some (xf_r z) → xj_W l z (pc + 3) ls (.int x :: st) A) : xj_W l z pc ls (xj_rv o :: st) A := by
  obtain ⟨x, h1, h2⟩ := Option.bind_eq_some_iff.mp h
  exact xg_getv B hd hf (xj_gi_inv h1) (kk x h1 h2)
theorem xg_getl (B : xj_B l y0 cc nL ret hs d z) {o : xj_Rf} {ci k index : Nat} {K : Int64 → Option xj_R} (hd : decode cc pc = .ok (.getfield index, 3)) (hf : xj_fl y0.cls index ci k) (h : (xj_gl A o ci k).bind K = some (xf_r z)) (kk : ∀ x, xj_gl A o ci k = some x → K x = some (xf_r z) → xj_W l z (pc + 3) ls (.long x :: st) A) : xj_W l z pc ls (xj_rv o :: st) A := by
  obtain ⟨x, h1, h2⟩ := Option.bind_eq_some_iff.mp h
  exact xg_getv B hd hf (xj_gl_inv h1) (kk x h1 h2)
theorem xg_getr (B : xj_B l y0 cc nL ret hs d z) {o : xj_Rf} {ci k index : Nat} {K : xj_Rf → Option xj_R} (hd : decode cc pc = .ok (.getfield index, 3)) (hf : xj_fl y0.cls index ci k) (h : (xj_gr A o ci k).bind K = some (xf_r z)) (kk : ∀ x, xj_gr A o ci k = some x → K x = some (xf_r z) → xj_W l z (pc + 3) ls (xj_rv x :: st) A) : xj_W l z pc ls (xj_rv o :: st) A := by
  obtain ⟨x, h1, h2⟩ := Option.bind_eq_some_iff.mp h
  exact xg_getv B hd hf (xj_gr_inv h1) (kk x h1 h2)
/-! Writing. -/
theorem xj_I_set {ad : Nat → Nat} {H H1 : Heap} {locs locs1 : List Loc} {cells slots a : Nat} {x : xj_C} (hI : xj_I z ad A H locs cells slots) (hx : xj_wc A.1.length x)
    (hP : va_P (xf_g z).1 xj_cl ((xj_w (xf_g z) ad A.1).set a (ad a, xj_c (xf_g z) ad x)) H1) (hD : va_D (xj_al (xf_g z) (xf_d z) (xf_H z) (xf_s z)) ((xj_w (xf_g z) ad A.1).set a (ad a, xj_c (xf_g z) ad x)))
    (hS : va_S (xj_al (xf_g z) (xf_d z) (xf_H z) (xf_s z)) (xf_s z).heap H1 locs1) : xj_I z ad (A.1.set a x, A.2) H1 locs1 cells slots := by
  rw [xj_w_set] at hP hD
  refine ⟨hI.1, by simpa using hI.2.1, hP, hD, fun q hq => ?_, hS, hI.2.2.2.2.2.2.1, hI.2.2.2.2.2.2.2⟩
  have hl : (A.1.set a x).length = A.1.length := List.length_set
  show xj_wc (A.1.set a x).length q
  rw [hl]
  rcases List.mem_or_eq_of_mem_set hq with h | rfl
  · exact hI.2.2.2.2.1 q h
  · exact hx
theorem xj_len_set {a : Nat} {x : xj_C} : ((A.1.set a x, A.2) : xj_H).1.length = A.1.length := List.length_set
theorem xj_pv_inv {o : xj_Rf} {ci k : Nat} {v : Value} {A' : xj_H} (h : xj_pv A o ci k v = some A') : ∃ (a : Nat) (fs : List Value), o = some (.inl a) ∧ A.1[a]? = some (.inr (ci, fs)) ∧ k < fs.length ∧ A' = (A.1.set a (.inr (ci, fs.set k v)), A.2) := by
  unfold xj_pv at h
  split at h
  · rename_i a
    split at h
    · rename_i q hq
      by_cases hc : q.1 = ci ∧ k < q.2.length
      · rw [if_pos hc] at h
        exact ⟨a, q.2, rfl, by rw [hq, ← hc.1], hc.2, (Option.some.inj h).symm⟩
      · rw [if_neg hc] at h
        cases h
    · cases h
  · cases h
def xj_fp (own name : String) (index ci k : Nat) (ty : FieldType) : Prop := ∃ (C : String) (T : u_T) (N : Nat) (ty0 : Nat → FieldType), xj_cl[ci]? = some (C, T, N) ∧ k < N ∧ (∀ w ∈ u_ws C T N, w ∈ xj_ws) ∧ (∀ j, j < N → parseFieldDescriptor (T j).2.2.1 = some (ty0 j)) ∧ (∀ a, a < N → ∀ b, b < N → a ≠ b → (T a).2.1 ≠ (T b).2.1) ∧
  parseFieldDescriptor (T k).2.2.1 = some ty ∧ ((Cond.fieldLink own index (T k).1 (T k).2.1 (T k).2.2.1 ∈ xj_ws ∧ ((T k).2.2.2 = false ∨ ((T k).2.2.2 = true ∧ name = "<init>" ∧ (T k).1 = own))) ∨ ((T k).2.2.2 = false ∧ ∃ host, Cond.fieldLinkNest own index (T k).1 (T k).2.1 (T k).2.2.1 host ∈ xj_nw))
theorem xg_putv (B : xj_B l y0 cc nL ret hs d z) {o : xj_Rf} {ci k index : Nat} {v : Value} {ty : FieldType} {A' : xj_H} (hd : decode cc pc = .ok (.putfield index, 3)) (hf : xj_fp y0.cls y0.name index ci k ty) (hn : ∀ ad, narrow ty (xj_v (xf_g z) ad v) = xj_v (xf_g z) ad v) (hfit : ∀ ad, fits ty (xj_v (xf_g z) ad v) = true) (hv : xj_pv A o ci k v = some A') (kk : xj_W l z (pc + 3) ls st A') : xj_W l z pc ls (v :: xj_rv o :: st) A := by
  intro ad H locs cells slots lz hI hls hst hlv
  obtain ⟨a, fs, rfl, ha, hk, rfl⟩ := xj_pv_inv hv
  obtain ⟨C, T, N, ty0, hc, hN, hin, hty, hnm0, hd0, hlk⟩ := hf
  obtain ⟨hx, hb, hml, hr, hlo, htab, hown, hnm, hT, hK, hrest⟩ := B
  have he : (xj_w (xf_g z) ad A.1)[a]? = some (ad a, .inr (ci, fs.map (xj_v (xf_g z) ad))) := xj_w_at ha
  have hw : xj_wc A.1.length (.inr (ci, fs.set k v)) := by
    intro w hw
    rcases List.mem_or_eq_of_mem_set hw with h | rfl
    · exact (xj_mem_wc hI ha) w h
    · exact hst.1
  have hkk : ∀ (H1 : Heap) (locs1 : List Loc), va_P (xf_g z).1 xj_cl ((xj_w (xf_g z) ad A.1).set a (ad a, .inr (ci, (fs.map (xj_v (xf_g z) ad)).set k (xj_v (xf_g z) ad v)))) H1 → va_D (xj_al (xf_g z) (xf_d z) (xf_H z) (xf_s z)) ((xj_w (xf_g z) ad A.1).set a (ad a, .inr (ci, (fs.map (xj_v (xf_g z) ad)).set k (xj_v (xf_g z) ad v)))) → va_S (xj_al (xf_g z) (xf_d z) (xf_H z) (xf_s z)) (xf_s z).heap H1 locs1 →
      W (xf_p z) l (xf_e z) (xf_R z) (xf_s z) (xf_m z) (xf_a z) (xf_b z) (xf_t z) (xf_c z) H1 locs1 cells slots (xj_Q z) (F0 (xf_m z) (pc + 3) lz (st.map (xj_v (xf_g z) ad))) := by
    intro H1 locs1 h1 h2 h3
    rw [← List.map_set] at h1 h2
    exact kk ad H1 locs1 cells slots lz (xj_I_set (x := .inr (ci, fs.set k v)) hI hw h1 h2 h3) (by rw [xj_len_set]; exact hls) (by rw [xj_len_set]; exact hst.2.2) hlv
  have hl' : k < (fs.map (xj_v (xf_g z) ad)).length := by rw [List.length_map]; exact hk
  rcases hlk with ⟨hlk, hfin | ⟨hfin, hinit, hdecl⟩⟩ | ⟨hfin, host, hlk⟩
  · exact va_put (Ts := xj_ws) hx hb (fun w h => hT.1 w h _) hin ty0 hty hnm0 hown hK hI.2.2.1 hI.2.2.2.1 hI.2.2.2.2.2.1 a he hc k hN (hT.1 _ hlk _) (fun _ h => h) hfin hd0 (hn ad) (hfit ad) hl' hd hkk
  · exact va_putF (Ts := xj_ws) hx hb (fun w h => hT.1 w h _) hin ty0 hty hnm0 hown hK hI.2.2.1 hI.2.2.2.1 hI.2.2.2.2.2.1 a he hc k hN (hT.1 _ hlk _) (fun _ h => h) hfin (by rw [hnm]; exact hinit) hdecl hd0 (hn ad) (hfit ad) hl' hd hkk
  · exact va_putN (Ts := xj_ws) hx hb (fun w h => hT.1 w h _) hin ty0 hty hnm0 hown hK hI.2.2.1 hI.2.2.2.1 hI.2.2.2.2.2.1 a he hc k hN (va_Nw.use rfl (hT.2 _ hlk)) (fun _ h => h) hfin hd0 (hn ad) (hfit ad) hl' hd hkk
theorem xg_puti (B : xj_B l y0 cc nL ret hs d z) {o : xj_Rf} {ci k index : Nat} {x : Int32} {K : xj_H → Option xj_R} (hd : decode cc pc = .ok (.putfield index, 3)) (hf : xj_fp y0.cls y0.name index ci k .int) (h : (xj_pv A o ci k (.int x)).bind K = some (xf_r z)) (kk : ∀ A', xj_pv A o ci k (.int x) = some A' → K A' = some (xf_r z) → xj_W l z (pc + 3) ls st A') : xj_W l z pc ls (.int x :: xj_rv o :: st) A := by
  obtain ⟨A', h1, h2⟩ := Option.bind_eq_some_iff.mp h
  exact xg_putv B hd hf (fun _ => rfl) (fun _ => rfl) h1 (kk A' h1 h2)
theorem xg_putl (B : xj_B l y0 cc nL ret hs d z) {o : xj_Rf} {ci k index : Nat} {x : Int64} {K : xj_H → Option xj_R} (hd : decode cc pc = .ok (.putfield index, 3)) (hf : xj_fp y0.cls y0.name index ci k .long) (h : (xj_pv A o ci k (.long x)).bind K = some (xf_r z)) (kk : ∀ A', xj_pv A o ci k (.long x) = some A' → K A' = some (xf_r z) → xj_W l z (pc + 3) ls st A') : xj_W l z pc ls (.long x :: xj_rv o :: st) A := by
  obtain ⟨A', h1, h2⟩ := Option.bind_eq_some_iff.mp h
  exact xg_putv B hd hf (fun _ => rfl) (fun _ => rfl) h1 (kk A' h1 h2)
theorem xg_putz (B : xj_B l y0 cc nL ret hs d z) {o : xj_Rf} {ci k index : Nat} {x : Int32} {K : xj_H → Option xj_R} (hd : decode cc pc = .ok (.putfield index, 3)) (hf : xj_fp y0.cls y0.name index ci k .boolean) (h : (xj_pz A o ci k x).bind K = some (xf_r z)) (kk : ∀ A', xj_pz A o ci k x = some A' → K A' = some (xf_r z) → xj_W l z (pc + 3) ls st A') : xj_W l z pc ls (.int x :: xj_rv o :: st) A := by
  obtain ⟨A', h1, h2⟩ := Option.bind_eq_some_iff.mp h
  have h3 := h1
  unfold xj_pz at h3
  by_cases hz : x = 0 ∨ x = 1
  · rw [if_pos hz] at h3
    refine xg_putv B hd hf (fun _ => ?_) (fun _ => ?_) h3 (kk A' h1 h2)
    · rcases hz with rfl | rfl <;> rfl
    · rcases hz with rfl | rfl <;> rfl
  · rw [if_neg hz] at h3
    cases h3
theorem xg_putr (B : xj_B l y0 cc nL ret hs d z) {o r : xj_Rf} {ci k index : Nat} {ty : FieldType} (hty : (∃ n, ty = .object n) ∨ ∃ t, ty = .array t) {K : xj_H → Option xj_R} (hd : decode cc pc = .ok (.putfield index, 3)) (hf : xj_fp y0.cls y0.name index ci k ty) (h : (xj_pv A o ci k (xj_rv r)).bind K = some (xf_r z)) (kk : ∀ A', xj_pv A o ci k (xj_rv r) = some A' → K A' = some (xf_r z) → xj_W l z (pc + 3) ls st A') : xj_W l z pc ls (xj_rv r :: xj_rv o :: st) A := by
  obtain ⟨A', h1, h2⟩ := Option.bind_eq_some_iff.mp h
  refine xg_putv B hd hf (fun _ => ?_) (fun _ => ?_) h1 (kk A' h1 h2)
  · rcases hty with ⟨n, rfl⟩ | ⟨t, rfl⟩ <;> (match r with
    | none => rfl
    | some (.inl _) => rfl
    | some (.inr _) => rfl)
  · rcases hty with ⟨n, rfl⟩ | ⟨t, rfl⟩ <;> (match r with
    | none => rfl
    | some (.inl _) => rfl
    | some (.inr _) => rfl)
/-! Arrays. -/
theorem xj_ar_inv {o : xj_Rf} {t n : Nat} {f : Nat → Int32} (h : xj_ar A o t = some (n, f)) : ∃ a, o = some (.inl a) ∧ A.1[a]? = some (.inl (t, n, .inl f)) := by
  unfold xj_ar at h
  split at h
  · rename_i a
    split at h
    · rename_i t' n' f' hq
      by_cases hc : t' = t
      · rw [if_pos hc] at h
        cases h
        exact ⟨a, rfl, by rw [hq, hc]⟩
      · rw [if_neg hc] at h
        cases h
    · cases h
  · cases h
theorem xj_ai_inv {o : xj_Rf} {t : Nat} {i x : Int32} (h : xj_ai A o t i = some x) : ∃ (a n : Nat) (f : Nat → Int32), o = some (.inl a) ∧ A.1[a]? = some (.inl (t, n, .inl f)) ∧ vp_in i n ∧ x = f i.toNatClampNeg := by
  unfold xj_ai at h
  obtain ⟨⟨n, f⟩, h1, h2⟩ := Option.bind_eq_some_iff.mp h
  obtain ⟨a, ho, ha⟩ := xj_ar_inv h1
  by_cases hc : i < 0 ∨ n ≤ i.toNatClampNeg
  · rw [if_pos hc] at h2
    cases h2
  · rw [if_neg hc] at h2
    exact ⟨a, n, f, ho, ha, hc, (Option.some.inj h2).symm⟩
theorem xj_as_inv {o : xj_Rf} {t : Nat} {i x : Int32} {A' : xj_H} (h : xj_as A o t i x = some A') : ∃ (a n : Nat) (f : Nat → Int32), o = some (.inl a) ∧ A.1[a]? = some (.inl (t, n, .inl f)) ∧ vp_in i n ∧ A' = (A.1.set a (.inl (t, n, .inl (upd f i.toNatClampNeg x))), A.2) := by
  unfold xj_as at h
  split at h
  · rename_i a
    split at h
    · rename_i t' n f hq
      by_cases hc : t' = t ∧ ¬ (i < 0 ∨ n ≤ i.toNatClampNeg)
      · rw [if_pos hc] at h
        exact ⟨a, n, f, rfl, by rw [hq, hc.1], hc.2, (Option.some.inj h).symm⟩
      · rw [if_neg hc] at h
        cases h
    · cases h
  · cases h
theorem xg_iaload (B : xj_B l y0 cc nL ret hs d z) {o : xj_Rf} {i : Int32} {K : Int32 → Option xj_R} (hd : decode cc pc = .ok (.iaload, 1)) (h : (xj_ai A o 0 i).bind K = some (xf_r z)) (kk : ∀ x, xj_ai A o 0 i = some x → K x = some (xf_r z) → xj_W l z (pc + 1) ls (.int x :: st) A) : xj_W l z pc ls (.int i :: xj_rv o :: st) A := by
  obtain ⟨x, h1, h2⟩ := Option.bind_eq_some_iff.mp h
  have k := kk x h1 h2
  obtain ⟨a, n, f, rfl, ha, hin, rfl⟩ := xj_ai_inv h1
  intro ad H locs cells slots lz hI hls hst hlv
  obtain ⟨hx, hb, hml, hr, hlo, htab, hown, hnm, hT, hK, hrest⟩ := B
  have he : (xj_w (xf_g z) ad A.1)[a]? = some (ad a, .inl ((xf_g z).2.1 0, n, .inl f)) := xj_w_at ha
  exact va_iald hx hb hK hI.2.2.1 a 0 he rfl hin hd (k ad H locs cells slots lz hI hls ⟨trivial, hst.2.2⟩ hlv)
theorem xg_iastore (B : xj_B l y0 cc nL ret hs d z) {o : xj_Rf} {i x : Int32} {K : xj_H → Option xj_R} (hd : decode cc pc = .ok (.iastore, 1)) (h : (xj_as A o 0 i (x)).bind K = some (xf_r z)) (kk : ∀ A', xj_as A o 0 i (x) = some A' → K A' = some (xf_r z) → xj_W l z (pc + 1) ls st A') : xj_W l z pc ls (.int x :: .int i :: xj_rv o :: st) A := by
  obtain ⟨A', h1, h2⟩ := Option.bind_eq_some_iff.mp h
  have k := kk A' h1 h2
  obtain ⟨a, n, f, rfl, ha, hin, rfl⟩ := xj_as_inv h1
  intro ad H locs cells slots lz hI hls hst hlv
  obtain ⟨hx, hb, hml, hr, hlo, htab, hown, hnm, hT, hK, hrest⟩ := B
  have he : (xj_w (xf_g z) ad A.1)[a]? = some (ad a, .inl ((xf_g z).2.1 0, n, .inl f)) := xj_w_at ha
  refine va_iast hx hb hK hI.2.2.1 hI.2.2.2.1 hI.2.2.2.2.2.1 a 0 he rfl hin hd (fun H1 locs1 g1 g2 g3 => ?_)
  exact k ad H1 locs1 cells slots lz (xj_I_set (x := .inl (0, n, .inl (upd f i.toNatClampNeg (x)))) hI trivial g1 g2 g3) (by rw [xj_len_set]; exact hls) (by rw [xj_len_set]; exact hst.2.2.2) hlv
theorem xg_caload (B : xj_B l y0 cc nL ret hs d z) {o : xj_Rf} {i : Int32} {K : Int32 → Option xj_R} (hd : decode cc pc = .ok (.caload, 1)) (h : (xj_ai A o 1 i).bind K = some (xf_r z)) (kk : ∀ x, xj_ai A o 1 i = some x → K x = some (xf_r z) → xj_W l z (pc + 1) ls (.int x :: st) A) : xj_W l z pc ls (.int i :: xj_rv o :: st) A := by
  obtain ⟨x, h1, h2⟩ := Option.bind_eq_some_iff.mp h
  have k := kk x h1 h2
  obtain ⟨a, n, f, rfl, ha, hin, rfl⟩ := xj_ai_inv h1
  intro ad H locs cells slots lz hI hls hst hlv
  obtain ⟨hx, hb, hml, hr, hlo, htab, hown, hnm, hT, hK, hrest⟩ := B
  have he : (xj_w (xf_g z) ad A.1)[a]? = some (ad a, .inl ((xf_g z).2.1 1, n, .inl f)) := xj_w_at ha
  exact va_cald hx hb hK hI.2.2.1 a 1 he rfl hin hd (k ad H locs cells slots lz hI hls ⟨trivial, hst.2.2⟩ hlv)
theorem xg_castore (B : xj_B l y0 cc nL ret hs d z) {o : xj_Rf} {i x : Int32} {K : xj_H → Option xj_R} (hd : decode cc pc = .ok (.castore, 1)) (h : (xj_as A o 1 i (vp_nar .char x)).bind K = some (xf_r z)) (kk : ∀ A', xj_as A o 1 i (vp_nar .char x) = some A' → K A' = some (xf_r z) → xj_W l z (pc + 1) ls st A') : xj_W l z pc ls (.int x :: .int i :: xj_rv o :: st) A := by
  obtain ⟨A', h1, h2⟩ := Option.bind_eq_some_iff.mp h
  have k := kk A' h1 h2
  obtain ⟨a, n, f, rfl, ha, hin, rfl⟩ := xj_as_inv h1
  intro ad H locs cells slots lz hI hls hst hlv
  obtain ⟨hx, hb, hml, hr, hlo, htab, hown, hnm, hT, hK, hrest⟩ := B
  have he : (xj_w (xf_g z) ad A.1)[a]? = some (ad a, .inl ((xf_g z).2.1 1, n, .inl f)) := xj_w_at ha
  refine va_cast hx hb hK hI.2.2.1 hI.2.2.2.1 hI.2.2.2.2.2.1 a 1 he rfl hin hd (fun H1 locs1 g1 g2 g3 => ?_)
  exact k ad H1 locs1 cells slots lz (xj_I_set (x := .inl (1, n, .inl (upd f i.toNatClampNeg (vp_nar .char x)))) hI trivial g1 g2 g3) (by rw [xj_len_set]; exact hls) (by rw [xj_len_set]; exact hst.2.2.2) hlv
theorem xg_zaload (B : xj_B l y0 cc nL ret hs d z) {o : xj_Rf} {i : Int32} {K : Int32 → Option xj_R} (hd : decode cc pc = .ok (.baload, 1)) (h : (xj_ai A o 2 i).bind K = some (xf_r z)) (kk : ∀ x, xj_ai A o 2 i = some x → K x = some (xf_r z) → xj_W l z (pc + 1) ls (.int x :: st) A) : xj_W l z pc ls (.int i :: xj_rv o :: st) A := by
  obtain ⟨x, h1, h2⟩ := Option.bind_eq_some_iff.mp h
  have k := kk x h1 h2
  obtain ⟨a, n, f, rfl, ha, hin, rfl⟩ := xj_ai_inv h1
  intro ad H locs cells slots lz hI hls hst hlv
  obtain ⟨hx, hb, hml, hr, hlo, htab, hown, hnm, hT, hK, hrest⟩ := B
  have he : (xj_w (xf_g z) ad A.1)[a]? = some (ad a, .inl ((xf_g z).2.1 2, n, .inl f)) := xj_w_at ha
  exact va_zald hx hb hK hI.2.2.1 a 2 he rfl hin hd (k ad H locs cells slots lz hI hls ⟨trivial, hst.2.2⟩ hlv)
theorem xg_zastore (B : xj_B l y0 cc nL ret hs d z) {o : xj_Rf} {i x : Int32} {K : xj_H → Option xj_R} (hd : decode cc pc = .ok (.bastore, 1)) (h : (xj_as A o 2 i (vp_nar .boolean x)).bind K = some (xf_r z)) (kk : ∀ A', xj_as A o 2 i (vp_nar .boolean x) = some A' → K A' = some (xf_r z) → xj_W l z (pc + 1) ls st A') : xj_W l z pc ls (.int x :: .int i :: xj_rv o :: st) A := by
  obtain ⟨A', h1, h2⟩ := Option.bind_eq_some_iff.mp h
  have k := kk A' h1 h2
  obtain ⟨a, n, f, rfl, ha, hin, rfl⟩ := xj_as_inv h1
  intro ad H locs cells slots lz hI hls hst hlv
  obtain ⟨hx, hb, hml, hr, hlo, htab, hown, hnm, hT, hK, hrest⟩ := B
  have he : (xj_w (xf_g z) ad A.1)[a]? = some (ad a, .inl ((xf_g z).2.1 2, n, .inl f)) := xj_w_at ha
  refine va_zast hx hb hK hI.2.2.1 hI.2.2.2.1 hI.2.2.2.2.2.1 a 2 he rfl hin hd (fun H1 locs1 g1 g2 g3 => ?_)
  exact k ad H1 locs1 cells slots lz (xj_I_set (x := .inl (2, n, .inl (upd f i.toNatClampNeg (vp_nar .boolean x)))) hI trivial g1 g2 g3) (by rw [xj_len_set]; exact hls) (by rw [xj_len_set]; exact hst.2.2.2) hlv
theorem xj_lai_inv {o : xj_Rf} {i : Int32} {x : Int64} (h : xj_lai A o i = some x) : ∃ (a n : Nat) (f : Nat → Int64), o = some (.inl a) ∧ A.1[a]? = some (.inl (3, n, .inr (.inl f))) ∧ vp_in i n ∧ x = f i.toNatClampNeg := by
  unfold xj_lai at h
  split at h
  · rename_i a
    split at h
    · rename_i t' n f hq
      by_cases hc : t' = 3 ∧ ¬ (i < 0 ∨ n ≤ i.toNatClampNeg)
      · rw [if_pos hc] at h
        exact ⟨a, n, f, rfl, by rw [hq, hc.1], hc.2, (Option.some.inj h).symm⟩
      · rw [if_neg hc] at h
        cases h
    · cases h
  · cases h
theorem xj_las_inv {o : xj_Rf} {i : Int32} {x : Int64} {A' : xj_H} (h : xj_las A o i x = some A') : ∃ (a n : Nat) (f : Nat → Int64), o = some (.inl a) ∧ A.1[a]? = some (.inl (3, n, .inr (.inl f))) ∧ vp_in i n ∧ A' = (A.1.set a (.inl (3, n, .inr (.inl (vp_updL f i.toNatClampNeg x)))), A.2) := by
  unfold xj_las at h
  split at h
  · rename_i a
    split at h
    · rename_i t' n f hq
      by_cases hc : t' = 3 ∧ ¬ (i < 0 ∨ n ≤ i.toNatClampNeg)
      · rw [if_pos hc] at h
        exact ⟨a, n, f, rfl, by rw [hq, hc.1], hc.2, (Option.some.inj h).symm⟩
      · rw [if_neg hc] at h
        cases h
    · cases h
  · cases h
theorem xg_laload (B : xj_B l y0 cc nL ret hs d z) {o : xj_Rf} {i : Int32} {K : Int64 → Option xj_R} (hd : decode cc pc = .ok (.laload, 1)) (h : (xj_lai A o i).bind K = some (xf_r z)) (kk : ∀ x, xj_lai A o i = some x → K x = some (xf_r z) → xj_W l z (pc + 1) ls (.long x :: st) A) : xj_W l z pc ls (.int i :: xj_rv o :: st) A := by
  obtain ⟨x, h1, h2⟩ := Option.bind_eq_some_iff.mp h
  have k := kk x h1 h2
  obtain ⟨a, n, f, rfl, ha, hin, rfl⟩ := xj_lai_inv h1
  intro ad H locs cells slots lz hI hls hst hlv
  obtain ⟨hx, hb, hml, hr, hlo, htab, hown, hnm, hT, hK, hrest⟩ := B
  have he : (xj_w (xf_g z) ad A.1)[a]? = some (ad a, .inl ((xf_g z).2.1 3, n, .inr (.inl f))) := xj_w_at ha
  exact va_lald hx hb hK hI.2.2.1 a 3 he rfl hin hd (k ad H locs cells slots lz hI hls ⟨trivial, hst.2.2⟩ hlv)
theorem xg_lastore (B : xj_B l y0 cc nL ret hs d z) {o : xj_Rf} {i : Int32} {x : Int64} {K : xj_H → Option xj_R} (hd : decode cc pc = .ok (.lastore, 1)) (h : (xj_las A o i x).bind K = some (xf_r z)) (kk : ∀ A', xj_las A o i x = some A' → K A' = some (xf_r z) → xj_W l z (pc + 1) ls st A') : xj_W l z pc ls (.long x :: .int i :: xj_rv o :: st) A := by
  obtain ⟨A', h1, h2⟩ := Option.bind_eq_some_iff.mp h
  have k := kk A' h1 h2
  obtain ⟨a, n, f, rfl, ha, hin, rfl⟩ := xj_las_inv h1
  intro ad H locs cells slots lz hI hls hst hlv
  obtain ⟨hx, hb, hml, hr, hlo, htab, hown, hnm, hT, hK, hrest⟩ := B
  have he : (xj_w (xf_g z) ad A.1)[a]? = some (ad a, .inl ((xf_g z).2.1 3, n, .inr (.inl f))) := xj_w_at ha
  refine va_last hx hb hK hI.2.2.1 hI.2.2.2.1 hI.2.2.2.2.2.1 a 3 he rfl hin hd (fun H1 locs1 g1 g2 g3 => ?_)
  exact k ad H1 locs1 cells slots lz (xj_I_set (x := .inl (3, n, .inr (.inl (vp_updL f i.toNatClampNeg x)))) hI trivial g1 g2 g3) (by rw [xj_len_set]; exact hls) (by rw [xj_len_set]; exact hst.2.2.2) hlv
theorem xj_ral_inv {o : xj_Rf} {i : Int32} {x : xj_Rf} (h : xj_ral A o i = some x) : ∃ (a n : Nat) (f : Nat → Option Nat), o = some (.inl a) ∧ A.1[a]? = some (.inl (4, n, .inr (.inr (.inr (.inr f))))) ∧ vp_in i n ∧ x = (f i.toNatClampNeg).map .inl := by
  unfold xj_ral at h
  split at h
  · rename_i a
    split at h
    · rename_i t' n f hq
      by_cases hc : t' = 4 ∧ ¬ (i < 0 ∨ n ≤ i.toNatClampNeg)
      · rw [if_pos hc] at h
        exact ⟨a, n, f, rfl, by rw [hq, hc.1], hc.2, (Option.some.inj h).symm⟩
      · rw [if_neg hc] at h
        cases h
    · cases h
  · cases h
theorem xj_rf_v (g : xj_G) (ad : Nat → Nat) (r : Option Nat) : va_rf (r.map ad) = xj_v g ad (xj_rv (r.map .inl)) := by cases r <;> rfl
theorem xg_aaload (B : xj_B l y0 cc nL ret hs d z) {o : xj_Rf} {i : Int32} {K : xj_Rf → Option xj_R} (hd : decode cc pc = .ok (.aaload, 1)) (h : (xj_ral A o i).bind K = some (xf_r z)) (kk : ∀ x, xj_ral A o i = some x → K x = some (xf_r z) → xj_W l z (pc + 1) ls (xj_rv x :: st) A) : xj_W l z pc ls (.int i :: xj_rv o :: st) A := by
  obtain ⟨x, h1, h2⟩ := Option.bind_eq_some_iff.mp h
  have k := kk x h1 h2
  obtain ⟨a, n, f, rfl, ha, hin, rfl⟩ := xj_ral_inv h1
  intro ad H locs cells slots lz hI hls hst hlv
  obtain ⟨hx, hb, hml, hr, hlo, htab, hown, hnm, hT, hK, hrest⟩ := B
  have he : (xj_w (xf_g z) ad A.1)[a]? = some (ad a, .inl ((xf_g z).2.1 4, n, .inr (.inr (.inr (.inr (fun i => (f i).map ad)))))) := xj_w_at ha
  have hw : xj_wv A.1.length (xj_rv ((f i.toNatClampNeg).map .inl)) := by
    have h3 := xj_mem_wc hI ha
    cases hf : f i.toNatClampNeg with
    | none => trivial
    | some j => exact h3 _ _ hf
  refine va_aldq hx hb hK hI.2.2.1 a 4 he rfl hin hd ?_
  rw [xj_rf_v (xf_g z)]
  exact k ad H locs cells slots lz hI hls ⟨hw, hst.2.2⟩ hlv
theorem xj_ras_inv {o v : xj_Rf} {i : Int32} {ci : Nat} {A' : xj_H} (h : xj_ras A o i ci v = some A') : ∃ (a b n : Nat) (f : Nat → Option Nat) (vs : List Value), o = some (.inl a) ∧ v = some (.inl b) ∧ A.1[a]? = some (.inl (4, n, .inr (.inr (.inr (.inr f))))) ∧ A.1[b]? = some (.inr (ci, vs)) ∧ vp_in i n ∧ A' = (A.1.set a (.inl (4, n, .inr (.inr (.inr (.inr (va_up f i.toNatClampNeg (some b))))))), A.2) := by
  unfold xj_ras at h
  split at h
  · rename_i a b
    split at h
    · rename_i t' n f q hq hq2
      by_cases hc : t' = 4 ∧ q.1 = ci ∧ ¬ (i < 0 ∨ n ≤ i.toNatClampNeg)
      · rw [if_pos hc] at h
        exact ⟨a, b, n, f, q.2, rfl, rfl, by rw [hq, hc.1], by rw [hq2, ← hc.2.1], hc.2.2, (Option.some.inj h).symm⟩
      · rw [if_neg hc] at h
        cases h
    · cases h
  · cases h
theorem xg_aastore (B : xj_B l y0 cc nL ret hs d z) {o v : xj_Rf} {i : Int32} {ci : Nat} {K : xj_H → Option xj_R} (hci : ∃ r : vw_C, xj_cl[ci]? = some r ∧ r.1 = xj_en) (hd : decode cc pc = .ok (.aastore, 1)) (h : (xj_ras A o i ci v).bind K = some (xf_r z)) (kk : ∀ A', xj_ras A o i ci v = some A' → K A' = some (xf_r z) → xj_W l z (pc + 1) ls st A') : xj_W l z pc ls (xj_rv v :: .int i :: xj_rv o :: st) A := by
  obtain ⟨A', h1, h2⟩ := Option.bind_eq_some_iff.mp h
  have k := kk A' h1 h2
  obtain ⟨a, b, n, f, vs, rfl, rfl, ha, hb2, hin, rfl⟩ := xj_ras_inv h1
  obtain ⟨r, hr1, hr2⟩ := hci
  intro ad H locs cells slots lz hI hls hst hlv
  obtain ⟨hx, hb, hml, hr, hlo, htab, hown, hnm, hT, hK, hrest⟩ := B
  have he : (xj_w (xf_g z) ad A.1)[a]? = some (ad a, .inl ((xf_g z).2.1 4, n, .inr (.inr (.inr (.inr (fun i => (f i).map ad)))))) := xj_w_at ha
  have he2 : (xj_w (xf_g z) ad A.1)[b]? = some (ad b, .inr (ci, vs.map (xj_v (xf_g z) ad))) := xj_w_at hb2
  have hw : xj_wc A.1.length (.inl (4, n, .inr (.inr (.inr (.inr (va_up f i.toNatClampNeg (some b))))))) := by
    intro j q hq
    simp only [va_up] at hq
    by_cases hj : j = i.toNatClampNeg
    · rw [if_pos hj] at hq
      cases hq
      exact (List.getElem?_eq_some_iff.mp hb2).1
    · rw [if_neg hj] at hq
      exact (xj_mem_wc hI ha) j q hq
  refine va_astq hx hb hK hI.2.2.1 hI.2.2.2.1 hI.2.2.2.2.2.1 a 4 b ci he (by rw [hr2]; rfl) he2 hr1 hin hd (fun H1 locs1 g1 g2 g3 => ?_)
  have hup : va_up (fun i => (f i).map ad) i.toNatClampNeg (some (ad b)) = fun j => (va_up f i.toNatClampNeg (some b) j).map ad := by
    funext j
    simp only [va_up]
    by_cases hj : j = i.toNatClampNeg <;> simp [hj]
  rw [hup] at g1 g2
  exact k ad H1 locs1 cells slots lz (xj_I_set (x := .inl (4, n, .inr (.inr (.inr (.inr (va_up f i.toNatClampNeg (some b))))))) hI hw g1 g2 g3) (by rw [xj_len_set]; exact hls) (by rw [xj_len_set]; exact hst.2.2.2) hlv
theorem xg_alen (B : xj_B l y0 cc nL ret hs d z) {o : xj_Rf} {t : Nat} {ty : FieldType} (ht : ∀ g, (xj_tys g)[t]? = some (g.2.1 t, ty)) {K : Int32 → Option xj_R} (hd : decode cc pc = .ok (.arraylength, 1)) (h : (xj_len A o t).bind K = some (xf_r z)) (kk : ∀ x, xj_len A o t = some x → K x = some (xf_r z) → xj_W l z (pc + 1) ls (.int x :: st) A) : xj_W l z pc ls (xj_rv o :: st) A := by
  obtain ⟨x, h1, h2⟩ := Option.bind_eq_some_iff.mp h
  have k := kk x h1 h2
  unfold xj_len at h1
  split at h1
  · rename_i a
    split at h1
    · rename_i t' n y hq
      by_cases hc : t' = t
      · rw [if_pos hc] at h1
        subst hc
        intro ad H locs cells slots lz hI hls hst hlv
        obtain ⟨hx, hb, hml, hr, hlo, htab, hown, hnm, hT, hK, hrest⟩ := B
        have hx1 : ∃ y', xj_c (xf_g z) ad (.inl (t', n, y)) = .inl ((xf_g z).2.1 t', n, y') := by
          match y with
          | .inl f => exact ⟨_, rfl⟩
          | .inr (.inl f) => exact ⟨_, rfl⟩
          | .inr (.inr (.inl f)) => exact ⟨_, rfl⟩
          | .inr (.inr (.inr (.inl f))) => exact ⟨_, rfl⟩
          | .inr (.inr (.inr (.inr f))) => exact ⟨_, rfl⟩
        obtain ⟨y', hy'⟩ := hx1
        have he : (xj_w (xf_g z) ad A.1)[a]? = some (ad a, .inl ((xf_g z).2.1 t', n, y')) := by rw [xj_w_at hq, hy']
        exact va_alen hx hb hK hI.2.2.1 a t' (x := (n, y')) he (ht _) (Option.some.inj h1) hd (k ad H locs cells slots lz hI hls ⟨trivial, hst.2⟩ hlv)
      · rw [if_neg hc] at h1
        cases h1
    · cases h1
  · cases h1
end Xheap

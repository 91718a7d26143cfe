section Xrows
variable {l : Launch} {z : xj_F} {y0 : MethodName} {cc : ByteArray} {nL : Nat} {ret : Option FieldType} {hs : List (Nat × Nat × Nat × Nat)} {d pc : Nat} {ls : List (Nat × Value)} {st : List Value} {A : xj_H}
theorem xj_lk_at {lz : Array Slot} {n : Nat} {g : xj_G} {ad : Nat → Nat} {i : Nat} {v : Value} (h : lv_has lz n (ls.map (fun q => (q.1, xj_v g ad q.2)))) (hl : xj_lk ls i = some v) : lz[i]? = some (.val (xj_v g ad v)) :=
  h.2.2 (i, xj_v g ad v) (List.mem_map.mpr ⟨(i, v), xj_lk_mem hl, rfl⟩)
theorem xj_rv_cat (r : xj_Rf) : (xj_rv r).category = 1 := by
  match r with
  | none => rfl
  | some (.inl _) => rfl
  | some (.inr _) => rfl
def xj_nl (i : Nat) : List (Nat × Value) → Prop
  | [] => True
  | q :: r => (q.1 + 1 = i → q.2.category = 1) ∧ xj_nl i r
def xj_st1 (ls : List (Nat × Value)) (i : Nat) (v : Value) : List (Nat × Value) := (i, v) :: ls.filter (fun q => !(q.1 == i))
def xj_st2 (ls : List (Nat × Value)) (i : Nat) (v : Value) : List (Nat × Value) := (i, v) :: ls.filter (fun q => !(q.1 == i) && !(q.1 == i + 1))
theorem xj_f1 (g : xj_G) (ad : Nat → Nat) (i : Nat) : ∀ {ls : List (Nat × Value)}, xj_nl i ls → (ls.map (fun q => (q.1, xj_v g ad q.2))).filter (fun q => !(q.1 == i) && !(q.1 + 1 == i && q.2.category == 2)) = (ls.filter (fun q => !(q.1 == i))).map (fun q => (q.1, xj_v g ad q.2))
  | [], _ => rfl
  | q :: r, h => by
    have ih := xj_f1 g ad i h.2
    rw [List.map_cons, List.filter_cons, List.filter_cons, ih]
    have hc : ((q.1 + 1 == i) && ((xj_v g ad q.2).category == 2)) = false := by
      by_cases hq : q.1 + 1 = i
      · rw [xj_v_cat, h.1 hq]; simp
      · simp [hq]
    simp only [hc, Bool.not_false, Bool.and_true]
    by_cases hi : q.1 = i <;> simp [hi]
theorem xj_f2 (g : xj_G) (ad : Nat → Nat) (i : Nat) : ∀ {ls : List (Nat × Value)}, xj_nl i ls → (ls.map (fun q => (q.1, xj_v g ad q.2))).filter (fun q => !(q.1 == i) && (!(q.1 == i + 1) && !(q.1 + 1 == i && q.2.category == 2))) = (ls.filter (fun q => !(q.1 == i) && !(q.1 == i + 1))).map (fun q => (q.1, xj_v g ad q.2))
  | [], _ => rfl
  | q :: r, h => by
    have ih := xj_f2 g ad i h.2
    rw [List.map_cons, List.filter_cons, List.filter_cons, ih]
    have hc : ((q.1 + 1 == i) && ((xj_v g ad q.2).category == 2)) = false := by
      by_cases hq : q.1 + 1 = i
      · rw [xj_v_cat, h.1 hq]; simp
      · simp [hq]
    simp only [hc, Bool.not_false, Bool.and_true]
    by_cases hi : q.1 = i
    · simp [hi]
    · by_cases hj : q.1 = i + 1 <;> simp [hi, hj]
theorem xj_wls_st1 {n i : Nat} {v : Value} {ls' : List (Nat × Value)} (h : xj_wls n ls) (hv : xj_wv n v) (he : xj_st1 ls i v = ls') : xj_wls n ls' := by
  subst he
  intro q hq
  rcases List.mem_cons.mp hq with rfl | hq
  · exact hv
  · exact h q (List.mem_filter.mp hq).1
theorem xj_wls_st2 {n i : Nat} {v : Value} {ls' : List (Nat × Value)} (h : xj_wls n ls) (hv : xj_wv n v) (he : xj_st2 ls i v = ls') : xj_wls n ls' := by
  subst he
  intro q hq
  rcases List.mem_cons.mp hq with rfl | hq
  · exact hv
  · exact h q (List.mem_filter.mp hq).1
theorem xj_rv_wf {n : Nat} {i : Nat} : xj_wv n (xj_rv (some (.inr i))) := trivial
/-- fewer known values -/
theorem xg_sub {ls' : List (Nat × Value)} (ks : List Nat) (hk : lv_pick ls ks = ls') (k : xj_W l z pc ls' st A) : xj_W l z pc ls st A := by
  intro ad H locs cells slots lz hI hls hst hlv
  have hm : ∀ q ∈ ls', q ∈ ls := by
    intro q hq
    rw [← hk] at hq
    obtain ⟨i, -, hi⟩ := List.mem_filterMap.mp hq
    exact List.mem_of_getElem? hi
  exact k ad H locs cells slots lz hI (fun q hq => hls q (hm q hq)) hst ⟨hlv.1, hlv.2.1, fun q hq => by
    obtain ⟨q', h1, rfl⟩ := List.mem_map.mp hq
    exact hlv.2.2 _ (List.mem_map.mpr ⟨q', hm q' h1, rfl⟩)⟩
theorem xg_iconst (B : xj_B l y0 cc nL ret hs d z) {n : Int} {v : Int32} (hd : decode cc pc = .ok (.iconst n, 1)) (hv : Int32.ofInt n = v) (k : xj_W l z (pc + 1) ls (.int v :: st) A) : xj_W l z pc ls (st) A := by
  intro ad H locs cells slots lz hI hls hst hlv
  exact lv_iconst B.1 B.2.1 hd hv (k ad H locs cells slots lz hI hls ⟨trivial, hst⟩ hlv)
theorem xg_bipush (B : xj_B l y0 cc nL ret hs d z) {n : Int} {v : Int32} (hd : decode cc pc = .ok (.bipush n, 2)) (hv : (Int8.ofInt n).toInt32 = v) (k : xj_W l z (pc + 2) ls (.int v :: st) A) : xj_W l z pc ls (st) A := by
  intro ad H locs cells slots lz hI hls hst hlv
  exact lv_bipush B.1 B.2.1 hd hv (k ad H locs cells slots lz hI hls ⟨trivial, hst⟩ hlv)
theorem xg_sipush (B : xj_B l y0 cc nL ret hs d z) {n : Int} {v : Int32} (hd : decode cc pc = .ok (.sipush n, 3)) (hv : (Int16.ofInt n).toInt32 = v) (k : xj_W l z (pc + 3) ls (.int v :: st) A) : xj_W l z pc ls (st) A := by
  intro ad H locs cells slots lz hI hls hst hlv
  exact lv_sipush B.1 B.2.1 hd hv (k ad H locs cells slots lz hI hls ⟨trivial, hst⟩ hlv)
theorem xg_lconst (B : xj_B l y0 cc nL ret hs d z) {n : Fin 2} {v : Int64} (hd : decode cc pc = .ok (.lconst n, 1)) (hv : Int64.ofNat (n : Nat) = v) (k : xj_W l z (pc + 1) ls (.long v :: st) A) : xj_W l z pc ls (st) A := by
  intro ad H locs cells slots lz hI hls hst hlv
  exact lv_lconst B.1 B.2.1 hd hv (k ad H locs cells slots lz hI hls ⟨trivial, hst⟩ hlv)
theorem xg_null (B : xj_B l y0 cc nL ret hs d z)  (hd : decode cc pc = .ok (.aconst_null, 1)) (k : xj_W l z (pc + 1) ls (xj_rv none :: st) A) : xj_W l z pc ls (st) A := by
  intro ad H locs cells slots lz hI hls hst hlv
  exact lv_null B.1 B.2.1 hd (k ad H locs cells slots lz hI hls ⟨trivial, hst⟩ hlv)
theorem xg_ldc (B : xj_B l y0 cc nL ret hs d z) {index : Nat} {v : Int32} (hd : decode cc pc = .ok (.ldc index, 2)) (hw : Cond.constant y0.cls index v ∈ xj_ws) (k : xj_W l z (pc + 2) ls (.int v :: st) A) : xj_W l z pc ls st A := by
  intro ad H locs cells slots lz hI hls hst hlv
  exact lv_ldc B.1 B.2.1 B.2.2.2.2.2.2.1 (B.2.2.2.2.2.2.2.2.1.1 _ hw _) hd (k ad H locs cells slots lz hI hls ⟨trivial, hst⟩ hlv)
theorem xg_ldc2 (B : xj_B l y0 cc nL ret hs d z) {index : Nat} {v : Int64} (hd : decode cc pc = .ok (.ldc2_w index, 3)) (hw : Cond.constantLong y0.cls index v ∈ xj_ws) (k : xj_W l z (pc + 3) ls (.long v :: st) A) : xj_W l z pc ls st A := by
  intro ad H locs cells slots lz hI hls hst hlv
  exact lv_ldc2 B.1 B.2.1 B.2.2.2.2.2.2.1 (B.2.2.2.2.2.2.2.2.1.1 _ hw _) hd (k ad H locs cells slots lz hI hls ⟨trivial, hst⟩ hlv)
theorem xg_iload_n (B : xj_B l y0 cc nL ret hs d z) {k : Fin 4} {i : Nat} {x : Int32} (hd : decode cc pc = .ok (.iload_n k, 1)) (hi : (k : Nat) = i) (hl : xj_lk ls i = some (.int x)) (k : xj_W l z (pc + 1) ls (.int x :: st) A) : xj_W l z pc ls (st) A := by
  intro ad H locs cells slots lz hI hls hst hlv
  exact lv_iload_n B.1 B.2.1 hd hi (xj_lk_at hlv hl) (k ad H locs cells slots lz hI hls ⟨trivial, hst⟩ hlv)
theorem xg_iload (B : xj_B l y0 cc nL ret hs d z) {i : Nat} {x : Int32} (hd : decode cc pc = .ok (.iload i, 2)) (hl : xj_lk ls i = some (.int x)) (k : xj_W l z (pc + 2) ls (.int x :: st) A) : xj_W l z pc ls (st) A := by
  intro ad H locs cells slots lz hI hls hst hlv
  exact lv_iload B.1 B.2.1 hd (xj_lk_at hlv hl) (k ad H locs cells slots lz hI hls ⟨trivial, hst⟩ hlv)
theorem xg_lload_n (B : xj_B l y0 cc nL ret hs d z) {k : Fin 4} {i : Nat} {x : Int64} (hd : decode cc pc = .ok (.lload_n k, 1)) (hi : (k : Nat) = i) (hl : xj_lk ls i = some (.long x)) (k : xj_W l z (pc + 1) ls (.long x :: st) A) : xj_W l z pc ls (st) A := by
  intro ad H locs cells slots lz hI hls hst hlv
  exact lv_lload_n B.1 B.2.1 hd hi (xj_lk_at hlv hl) (k ad H locs cells slots lz hI hls ⟨trivial, hst⟩ hlv)
theorem xg_lload (B : xj_B l y0 cc nL ret hs d z) {i : Nat} {x : Int64} (hd : decode cc pc = .ok (.lload i, 2)) (hl : xj_lk ls i = some (.long x)) (k : xj_W l z (pc + 2) ls (.long x :: st) A) : xj_W l z pc ls (st) A := by
  intro ad H locs cells slots lz hI hls hst hlv
  exact lv_lload B.1 B.2.1 hd (xj_lk_at hlv hl) (k ad H locs cells slots lz hI hls ⟨trivial, hst⟩ hlv)
theorem xg_aload_n (B : xj_B l y0 cc nL ret hs d z) {k : Fin 4} {i : Nat} {r : xj_Rf} (hd : decode cc pc = .ok (.aload_n k, 1)) (hi : (k : Nat) = i) (hl : xj_lk ls i = some (xj_rv r)) (k : xj_W l z (pc + 1) ls (xj_rv r :: st) A) : xj_W l z pc ls st A := by
  intro ad H locs cells slots lz hI hls hst hlv
  have hw := hls _ (xj_lk_mem hl)
  have hk := k ad H locs cells slots lz hI hls ⟨hw, hst⟩ hlv
  have ha := xj_lk_at hlv hl
  match r with
  | none => exact lv_aload_nN B.1 B.2.1 hd hi ha hk
  | some (.inl j) => exact lv_aload_n B.1 B.2.1 hd hi ha hk
  | some (.inr j) => exact lv_aload_n B.1 B.2.1 hd hi ha hk
theorem xg_aload (B : xj_B l y0 cc nL ret hs d z) {i : Nat} {r : xj_Rf} (hd : decode cc pc = .ok (.aload i, 2)) (hl : xj_lk ls i = some (xj_rv r)) (k : xj_W l z (pc + 2) ls (xj_rv r :: st) A) : xj_W l z pc ls st A := by
  intro ad H locs cells slots lz hI hls hst hlv
  have hw := hls _ (xj_lk_mem hl)
  have hk := k ad H locs cells slots lz hI hls ⟨hw, hst⟩ hlv
  have ha := xj_lk_at hlv hl
  match r with
  | none => exact lv_aloadN B.1 B.2.1 hd ha hk
  | some (.inl j) => exact lv_aload B.1 B.2.1 hd ha hk
  | some (.inr j) => exact lv_aload B.1 B.2.1 hd ha hk
theorem xg_istore_n (B : xj_B l y0 cc nL ret hs d z) {k : Fin 4} {i : Nat} {x : Int32} {ls' : List (Nat × Value)} (hd : decode cc pc = .ok (.istore_n k, 1)) (hi : (k : Nat) = i) (hn : i < nL) (hq : xj_nl i ls) (he : xj_st1 ls i (.int x) = ls') (k : xj_W l z (pc + 1) ls' st A) : xj_W l z pc ls (.int x :: st) A := by
  intro ad H locs cells slots lz hI hls hst hlv
  refine lv_istore_n B.1 B.2.1 hd hi hlv (by rw [B.2.2.1]; exact hn) (lv' := ls'.map (fun q => (q.1, xj_v (xf_g z) ad q.2))) (by rw [xj_f1 _ _ _ hq, ← he]; rfl) (fun lz' hlv' => ?_)
  exact k ad H locs cells slots lz' hI (xj_wls_st1 hls hst.1 he) hst.2 hlv'
theorem xg_istore (B : xj_B l y0 cc nL ret hs d z) {i : Nat} {x : Int32} {ls' : List (Nat × Value)} (hd : decode cc pc = .ok (.istore i, 2)) (hn : i < nL) (hq : xj_nl i ls) (he : xj_st1 ls i (.int x) = ls') (k : xj_W l z (pc + 2) ls' st A) : xj_W l z pc ls (.int x :: st) A := by
  intro ad H locs cells slots lz hI hls hst hlv
  refine lv_istore B.1 B.2.1 hd hlv (by rw [B.2.2.1]; exact hn) (lv' := ls'.map (fun q => (q.1, xj_v (xf_g z) ad q.2))) (by rw [xj_f1 _ _ _ hq, ← he]; rfl) (fun lz' hlv' => ?_)
  exact k ad H locs cells slots lz' hI (xj_wls_st1 hls hst.1 he) hst.2 hlv'
theorem xg_lstore_n (B : xj_B l y0 cc nL ret hs d z) {k : Fin 4} {i : Nat} {x : Int64} {ls' : List (Nat × Value)} (hd : decode cc pc = .ok (.lstore_n k, 1)) (hi : (k : Nat) = i) (hn : i + 1 < nL) (hq : xj_nl i ls) (he : xj_st2 ls i (.long x) = ls') (k : xj_W l z (pc + 1) ls' st A) : xj_W l z pc ls (.long x :: st) A := by
  intro ad H locs cells slots lz hI hls hst hlv
  refine lv_lstore_n B.1 B.2.1 hd hi hlv (by rw [B.2.2.1]; exact hn) (lv' := ls'.map (fun q => (q.1, xj_v (xf_g z) ad q.2))) (by rw [xj_f2 _ _ _ hq, ← he]; rfl) (fun lz' hlv' => ?_)
  exact k ad H locs cells slots lz' hI (xj_wls_st2 hls hst.1 he) hst.2 hlv'
theorem xg_lstore (B : xj_B l y0 cc nL ret hs d z) {i : Nat} {x : Int64} {ls' : List (Nat × Value)} (hd : decode cc pc = .ok (.lstore i, 2)) (hn : i + 1 < nL) (hq : xj_nl i ls) (he : xj_st2 ls i (.long x) = ls') (k : xj_W l z (pc + 2) ls' st A) : xj_W l z pc ls (.long x :: st) A := by
  intro ad H locs cells slots lz hI hls hst hlv
  refine lv_lstore B.1 B.2.1 hd hlv (by rw [B.2.2.1]; exact hn) (lv' := ls'.map (fun q => (q.1, xj_v (xf_g z) ad q.2))) (by rw [xj_f2 _ _ _ hq, ← he]; rfl) (fun lz' hlv' => ?_)
  exact k ad H locs cells slots lz' hI (xj_wls_st2 hls hst.1 he) hst.2 hlv'
theorem xg_astore_n (B : xj_B l y0 cc nL ret hs d z) {k : Fin 4} {i : Nat} {r : xj_Rf} {ls' : List (Nat × Value)} (hd : decode cc pc = .ok (.astore_n k, 1)) (hi : (k : Nat) = i) (hn : i < nL) (hq : xj_nl i ls) (he : xj_st1 ls i (xj_rv r) = ls') (k : xj_W l z (pc + 1) ls' st A) : xj_W l z pc ls (xj_rv r :: st) A := by
  intro ad H locs cells slots lz hI hls hst hlv
  match r with
  | none => refine lv_astore_nN B.1 B.2.1 hd hi hlv (by rw [B.2.2.1]; exact hn) (lv' := ls'.map (fun q => (q.1, xj_v (xf_g z) ad q.2))) (by rw [xj_f1 _ _ _ hq, ← he]; rfl) (fun lz' hlv' => k ad H locs cells slots lz' hI (xj_wls_st1 hls hst.1 he) hst.2 hlv')
  | some (.inl j) => refine lv_astore_n B.1 B.2.1 hd hi hlv (by rw [B.2.2.1]; exact hn) (lv' := ls'.map (fun q => (q.1, xj_v (xf_g z) ad q.2))) (by rw [xj_f1 _ _ _ hq, ← he]; rfl) (fun lz' hlv' => k ad H locs cells slots lz' hI (xj_wls_st1 hls hst.1 he) hst.2 hlv')
  | some (.inr j) => refine lv_astore_n B.1 B.2.1 hd hi hlv (by rw [B.2.2.1]; exact hn) (lv' := ls'.map (fun q => (q.1, xj_v (xf_g z) ad q.2))) (by rw [xj_f1 _ _ _ hq, ← he]; rfl) (fun lz' hlv' => k ad H locs cells slots lz' hI (xj_wls_st1 hls hst.1 he) hst.2 hlv')
theorem xg_astore (B : xj_B l y0 cc nL ret hs d z) {i : Nat} {r : xj_Rf} {ls' : List (Nat × Value)} (hd : decode cc pc = .ok (.astore i, 2)) (hn : i < nL) (hq : xj_nl i ls) (he : xj_st1 ls i (xj_rv r) = ls') (k : xj_W l z (pc + 2) ls' st A) : xj_W l z pc ls (xj_rv r :: st) A := by
  intro ad H locs cells slots lz hI hls hst hlv
  match r with
  | none => refine lv_astoreN B.1 B.2.1 hd hlv (by rw [B.2.2.1]; exact hn) (lv' := ls'.map (fun q => (q.1, xj_v (xf_g z) ad q.2))) (by rw [xj_f1 _ _ _ hq, ← he]; rfl) (fun lz' hlv' => k ad H locs cells slots lz' hI (xj_wls_st1 hls hst.1 he) hst.2 hlv')
  | some (.inl j) => refine lv_astore B.1 B.2.1 hd hlv (by rw [B.2.2.1]; exact hn) (lv' := ls'.map (fun q => (q.1, xj_v (xf_g z) ad q.2))) (by rw [xj_f1 _ _ _ hq, ← he]; rfl) (fun lz' hlv' => k ad H locs cells slots lz' hI (xj_wls_st1 hls hst.1 he) hst.2 hlv')
  | some (.inr j) => refine lv_astore B.1 B.2.1 hd hlv (by rw [B.2.2.1]; exact hn) (lv' := ls'.map (fun q => (q.1, xj_v (xf_g z) ad q.2))) (by rw [xj_f1 _ _ _ hq, ← he]; rfl) (fun lz' hlv' => k ad H locs cells slots lz' hI (xj_wls_st1 hls hst.1 he) hst.2 hlv')
theorem xg_iinc (B : xj_B l y0 cc nL ret hs d z) {i : Nat} {n : Int} {x v : Int32} {ls' : List (Nat × Value)} (hd : decode cc pc = .ok (.iinc i n, 3)) (hl : xj_lk ls i = some (.int x)) (hv : x + Int32.ofInt n = v) (hn : i < nL) (hq : xj_nl i ls) (he : xj_st1 ls i (.int v) = ls') (k : xj_W l z (pc + 3) ls' st A) : xj_W l z pc ls st A := by
  intro ad H locs cells slots lz hI hls hst hlv
  obtain ⟨j, hj⟩ := List.getElem?_of_mem (xj_lk_mem hl)
  refine lv_iinc B.1 B.2.1 hd hlv (k := j) (by rw [List.getElem?_map, hj]; rfl) hv (by rw [B.2.2.1]; exact hn) (lv' := ls'.map (fun q => (q.1, xj_v (xf_g z) ad q.2))) (by rw [xj_f1 _ _ _ hq, ← he]; rfl) (fun lz' hlv' => ?_)
  exact k ad H locs cells slots lz' hI (xj_wls_st1 (v := .int v) hls trivial he) hst hlv'
theorem xg_iadd (B : xj_B l y0 cc nL ret hs d z) {x y : Int32} (hd : decode cc pc = .ok (.iadd, 1)) (k : xj_W l z (pc + 1) ls (.int (x + y) :: st) A) : xj_W l z pc ls (.int y :: .int x :: st) A := by
  intro ad H locs cells slots lz hI hls hst hlv
  exact lv_iadd B.1 B.2.1 hd (k ad H locs cells slots lz hI hls ⟨trivial, hst.2.2⟩ hlv)
theorem xg_isub (B : xj_B l y0 cc nL ret hs d z) {x y : Int32} (hd : decode cc pc = .ok (.isub, 1)) (k : xj_W l z (pc + 1) ls (.int (x - y) :: st) A) : xj_W l z pc ls (.int y :: .int x :: st) A := by
  intro ad H locs cells slots lz hI hls hst hlv
  exact lv_isub B.1 B.2.1 hd (k ad H locs cells slots lz hI hls ⟨trivial, hst.2.2⟩ hlv)
theorem xg_imul (B : xj_B l y0 cc nL ret hs d z) {x y : Int32} (hd : decode cc pc = .ok (.imul, 1)) (k : xj_W l z (pc + 1) ls (.int (x * y) :: st) A) : xj_W l z pc ls (.int y :: .int x :: st) A := by
  intro ad H locs cells slots lz hI hls hst hlv
  exact lv_imul B.1 B.2.1 hd (k ad H locs cells slots lz hI hls ⟨trivial, hst.2.2⟩ hlv)
theorem xg_iand (B : xj_B l y0 cc nL ret hs d z) {x y : Int32} (hd : decode cc pc = .ok (.iand, 1)) (k : xj_W l z (pc + 1) ls (.int (x &&& y) :: st) A) : xj_W l z pc ls (.int y :: .int x :: st) A := by
  intro ad H locs cells slots lz hI hls hst hlv
  exact lv_iand B.1 B.2.1 hd (k ad H locs cells slots lz hI hls ⟨trivial, hst.2.2⟩ hlv)
theorem xg_ior (B : xj_B l y0 cc nL ret hs d z) {x y : Int32} (hd : decode cc pc = .ok (.ior, 1)) (k : xj_W l z (pc + 1) ls (.int (x ||| y) :: st) A) : xj_W l z pc ls (.int y :: .int x :: st) A := by
  intro ad H locs cells slots lz hI hls hst hlv
  exact lv_ior B.1 B.2.1 hd (k ad H locs cells slots lz hI hls ⟨trivial, hst.2.2⟩ hlv)
theorem xg_ixor (B : xj_B l y0 cc nL ret hs d z) {x y : Int32} (hd : decode cc pc = .ok (.ixor, 1)) (k : xj_W l z (pc + 1) ls (.int (x ^^^ y) :: st) A) : xj_W l z pc ls (.int y :: .int x :: st) A := by
  intro ad H locs cells slots lz hI hls hst hlv
  exact lv_ixor B.1 B.2.1 hd (k ad H locs cells slots lz hI hls ⟨trivial, hst.2.2⟩ hlv)
theorem xg_ishl (B : xj_B l y0 cc nL ret hs d z) {x y : Int32} (hd : decode cc pc = .ok (.ishl, 1)) (k : xj_W l z (pc + 1) ls (.int (x <<< (y &&& 31)) :: st) A) : xj_W l z pc ls (.int y :: .int x :: st) A := by
  intro ad H locs cells slots lz hI hls hst hlv
  exact lv_ishl B.1 B.2.1 hd (k ad H locs cells slots lz hI hls ⟨trivial, hst.2.2⟩ hlv)
theorem xg_ishr (B : xj_B l y0 cc nL ret hs d z) {x y : Int32} (hd : decode cc pc = .ok (.ishr, 1)) (k : xj_W l z (pc + 1) ls (.int (x >>> (y &&& 31)) :: st) A) : xj_W l z pc ls (.int y :: .int x :: st) A := by
  intro ad H locs cells slots lz hI hls hst hlv
  exact lv_ishr B.1 B.2.1 hd (k ad H locs cells slots lz hI hls ⟨trivial, hst.2.2⟩ hlv)
theorem xg_ladd (B : xj_B l y0 cc nL ret hs d z) {x y : Int64} (hd : decode cc pc = .ok (.ladd, 1)) (k : xj_W l z (pc + 1) ls (.long (x + y) :: st) A) : xj_W l z pc ls (.long y :: .long x :: st) A := by
  intro ad H locs cells slots lz hI hls hst hlv
  exact lv_ladd B.1 B.2.1 hd (k ad H locs cells slots lz hI hls ⟨trivial, hst.2.2⟩ hlv)
theorem xg_lsub (B : xj_B l y0 cc nL ret hs d z) {x y : Int64} (hd : decode cc pc = .ok (.lsub, 1)) (k : xj_W l z (pc + 1) ls (.long (x - y) :: st) A) : xj_W l z pc ls (.long y :: .long x :: st) A := by
  intro ad H locs cells slots lz hI hls hst hlv
  exact lv_lsub B.1 B.2.1 hd (k ad H locs cells slots lz hI hls ⟨trivial, hst.2.2⟩ hlv)
theorem xg_lmul (B : xj_B l y0 cc nL ret hs d z) {x y : Int64} (hd : decode cc pc = .ok (.lmul, 1)) (k : xj_W l z (pc + 1) ls (.long (x * y) :: st) A) : xj_W l z pc ls (.long y :: .long x :: st) A := by
  intro ad H locs cells slots lz hI hls hst hlv
  exact lv_lmul B.1 B.2.1 hd (k ad H locs cells slots lz hI hls ⟨trivial, hst.2.2⟩ hlv)
theorem xg_land (B : xj_B l y0 cc nL ret hs d z) {x y : Int64} (hd : decode cc pc = .ok (.land, 1)) (k : xj_W l z (pc + 1) ls (.long (x &&& y) :: st) A) : xj_W l z pc ls (.long y :: .long x :: st) A := by
  intro ad H locs cells slots lz hI hls hst hlv
  exact lv_land B.1 B.2.1 hd (k ad H locs cells slots lz hI hls ⟨trivial, hst.2.2⟩ hlv)
theorem xg_lor (B : xj_B l y0 cc nL ret hs d z) {x y : Int64} (hd : decode cc pc = .ok (.lor, 1)) (k : xj_W l z (pc + 1) ls (.long (x ||| y) :: st) A) : xj_W l z pc ls (.long y :: .long x :: st) A := by
  intro ad H locs cells slots lz hI hls hst hlv
  exact lv_lor B.1 B.2.1 hd (k ad H locs cells slots lz hI hls ⟨trivial, hst.2.2⟩ hlv)
theorem xg_ineg (B : xj_B l y0 cc nL ret hs d z) {x : Int32} (hd : decode cc pc = .ok (.ineg, 1)) (k : xj_W l z (pc + 1) ls (.int (-x) :: st) A) : xj_W l z pc ls (.int x :: st) A := by
  intro ad H locs cells slots lz hI hls hst hlv
  exact lv_ineg B.1 B.2.1 hd (k ad H locs cells slots lz hI hls ⟨trivial, hst.2⟩ hlv)
theorem xg_idiv (B : xj_B l y0 cc nL ret hs d z) {x y : Int32} (hd : decode cc pc = .ok (.idiv, 1)) (hne : ¬ y = 0) (k : xj_W l z (pc + 1) ls (.int (x / y) :: st) A) : xj_W l z pc ls (.int y :: .int x :: st) A := by
  intro ad H locs cells slots lz hI hls hst hlv
  exact lv_idiv B.1 B.2.1 hd hne (k ad H locs cells slots lz hI hls ⟨trivial, hst.2.2⟩ hlv)
theorem xj_rem (x y : Int32) : x - x / y * y = x % y := by
  apply Int32.toInt_inj.mp
  rw [rem_toInt, Int32.toInt_mod]
theorem xg_irem (B : xj_B l y0 cc nL ret hs d z) {x y : Int32} (hd : decode cc pc = .ok (.irem, 1)) (hne : ¬ y = 0) (k : xj_W l z (pc + 1) ls (.int (x % y) :: st) A) : xj_W l z pc ls (.int y :: .int x :: st) A := by
  intro ad H locs cells slots lz hI hls hst hlv
  refine lv_irem B.1 B.2.1 hd hne ?_
  rw [xj_rem]
  exact k ad H locs cells slots lz hI hls ⟨trivial, hst.2.2⟩ hlv
theorem xg_lcmp (B : xj_B l y0 cc nL ret hs d z) {x y : Int64} (hd : decode cc pc = .ok (.lcmp, 1)) (k : xj_W l z (pc + 1) ls (.int (lg_cmp x y) :: st) A) : xj_W l z pc ls (.long y :: .long x :: st) A := by
  intro ad H locs cells slots lz hI hls hst hlv
  exact W.lcmp B.1 B.2.1 hd (k ad H locs cells slots lz hI hls ⟨trivial, hst.2.2⟩ hlv)
theorem xg_lshl (B : xj_B l y0 cc nL ret hs d z) {x : Int64} {y : Int32} (hd : decode cc pc = .ok (.lshl, 1)) (k : xj_W l z (pc + 1) ls (.long (x <<< (y.toInt64 &&& 63)) :: st) A) : xj_W l z pc ls (.int y :: .long x :: st) A := by
  intro ad H locs cells slots lz hI hls hst hlv
  exact lv_lshl B.1 B.2.1 hd rfl (k ad H locs cells slots lz hI hls ⟨trivial, hst.2.2⟩ hlv)
theorem xg_i2l (B : xj_B l y0 cc nL ret hs d z) {x : Int32} (hd : decode cc pc = .ok (.i2l, 1)) (k : xj_W l z (pc + 1) ls (.long x.toInt64 :: st) A) : xj_W l z pc ls (.int x :: st) A := by
  intro ad H locs cells slots lz hI hls hst hlv
  exact lv_i2l B.1 B.2.1 hd rfl (k ad H locs cells slots lz hI hls ⟨trivial, hst.2⟩ hlv)
theorem xg_l2i (B : xj_B l y0 cc nL ret hs d z) {x : Int64} (hd : decode cc pc = .ok (.l2i, 1)) (k : xj_W l z (pc + 1) ls (.int x.toInt32 :: st) A) : xj_W l z pc ls (.long x :: st) A := by
  intro ad H locs cells slots lz hI hls hst hlv
  exact lv_l2i B.1 B.2.1 hd rfl (k ad H locs cells slots lz hI hls ⟨trivial, hst.2⟩ hlv)
theorem xg_i2c (B : xj_B l y0 cc nL ret hs d z) {x : Int32} (hd : decode cc pc = .ok (.i2c, 1)) (k : xj_W l z (pc + 1) ls (.int ((x.toUInt32 % 65536).toInt32) :: st) A) : xj_W l z pc ls (.int x :: st) A := by
  intro ad H locs cells slots lz hI hls hst hlv
  exact lv_i2c B.1 B.2.1 hd rfl (k ad H locs cells slots lz hI hls ⟨trivial, hst.2⟩ hlv)
theorem xg_dup (B : xj_B l y0 cc nL ret hs d z) {va : Value} (hd : decode cc pc = .ok (.dup, 1)) (ha : va.category = 1) (k : xj_W l z (pc + 1) ls (va :: va :: st) A) : xj_W l z pc ls (va :: st) A := by
  intro ad H locs cells slots lz hI hls hst hlv
  exact lv_dup B.1 B.2.1 hd (by rw [xj_v_cat]; exact ha) (k ad H locs cells slots lz hI hls ⟨hst.1, hst⟩ hlv)
theorem xg_pop (B : xj_B l y0 cc nL ret hs d z) {va : Value} (hd : decode cc pc = .ok (.pop, 1)) (ha : va.category = 1) (k : xj_W l z (pc + 1) ls (st) A) : xj_W l z pc ls (va :: st) A := by
  intro ad H locs cells slots lz hI hls hst hlv
  exact lv_pop B.1 B.2.1 hd (by rw [xj_v_cat]; exact ha) (k ad H locs cells slots lz hI hls hst.2 hlv)
theorem xg_dup_x1 (B : xj_B l y0 cc nL ret hs d z) {va vb : Value} (hd : decode cc pc = .ok (.dup_x1, 1)) (ha : va.category = 1) (hb : vb.category = 1) (k : xj_W l z (pc + 1) ls (va :: vb :: va :: st) A) : xj_W l z pc ls (va :: vb :: st) A := by
  intro ad H locs cells slots lz hI hls hst hlv
  exact lv_dup_x1 B.1 B.2.1 hd (by rw [xj_v_cat]; exact ha) (by rw [xj_v_cat]; exact hb) (k ad H locs cells slots lz hI hls ⟨hst.1, hst.2.1, hst.1, hst.2.2⟩ hlv)
theorem xg_dup_x2 (B : xj_B l y0 cc nL ret hs d z) {va vb vd : Value} (hd : decode cc pc = .ok (.dup_x2, 1)) (ha : va.category = 1) (hb : vb.category = 1) (hc : vd.category = 1) (k : xj_W l z (pc + 1) ls (va :: vb :: vd :: va :: st) A) : xj_W l z pc ls (va :: vb :: vd :: st) A := by
  intro ad H locs cells slots lz hI hls hst hlv
  exact lv_dup_x2 B.1 B.2.1 hd (by rw [xj_v_cat]; exact ha) (by rw [xj_v_cat]; exact hb) (by rw [xj_v_cat]; exact hc) (k ad H locs cells slots lz hI hls ⟨hst.1, hst.2.1, hst.2.2.1, hst.1, hst.2.2.2⟩ hlv)
theorem xg_dup2 (B : xj_B l y0 cc nL ret hs d z) {va vb : Value} (hd : decode cc pc = .ok (.dup2, 1)) (ha : va.category = 1) (hb : vb.category = 1) (k : xj_W l z (pc + 1) ls (va :: vb :: va :: vb :: st) A) : xj_W l z pc ls (va :: vb :: st) A := by
  intro ad H locs cells slots lz hI hls hst hlv
  exact lv_dup2_11 B.1 B.2.1 hd (by rw [xj_v_cat]; exact ha) (by rw [xj_v_cat]; exact hb) (k ad H locs cells slots lz hI hls ⟨hst.1, hst.2.1, hst⟩ hlv)
theorem xg_pop2 (B : xj_B l y0 cc nL ret hs d z) {va : Value} (hd : decode cc pc = .ok (.pop2, 1)) (ha : va.category = 2) (k : xj_W l z (pc + 1) ls (st) A) : xj_W l z pc ls (va :: st) A := by
  intro ad H locs cells slots lz hI hls hst hlv
  exact lv_pop2_2 B.1 B.2.1 hd (by rw [xj_v_cat]; exact ha) (k ad H locs cells slots lz hI hls hst.2 hlv)
theorem xg_if_eq (B : xj_B l y0 cc nL ret hs d z) {x : Int32} {off : Int} {tgt : Nat} {P P' : Option xj_R} (hd : decode cc pc = .ok (.ifCond .eq off, 3)) (ht : (pc : Int) + off = (tgt : Int)) (h : (if x = 0 then P else P') = some (xf_r z)) (kt : x = 0 → P = some (xf_r z) → xj_W l z tgt ls st A) (kf : ¬ (x = 0) → P' = some (xf_r z) → xj_W l z (pc + 3) ls st A) : xj_W l z pc ls (.int x :: st) A := by
  intro ad H locs cells slots lz hI hls hst hlv
  refine lv_if_eq B.1 B.2.1 hd ht (fun hc => ?_) (fun hc => ?_)
  · first | exact kt hc (by rw [if_pos hc] at h; exact h) ad H locs cells slots lz hI hls hst.2 hlv | exact kt (by simpa using hc) (by rw [if_pos (by simpa using hc)] at h; exact h) ad H locs cells slots lz hI hls hst.2 hlv
  · first | exact kf hc (by rw [if_neg hc] at h; exact h) ad H locs cells slots lz hI hls hst.2 hlv | exact kf (by simpa using hc) (by rw [if_neg (by simpa using hc)] at h; exact h) ad H locs cells slots lz hI hls hst.2 hlv
theorem xg_icmp_eq (B : xj_B l y0 cc nL ret hs d z) {x y : Int32} {off : Int} {tgt : Nat} {P P' : Option xj_R} (hd : decode cc pc = .ok (.if_icmp .eq off, 3)) (ht : (pc : Int) + off = (tgt : Int)) (h : (if x = y then P else P') = some (xf_r z)) (kt : x = y → P = some (xf_r z) → xj_W l z tgt ls st A) (kf : ¬ (x = y) → P' = some (xf_r z) → xj_W l z (pc + 3) ls st A) : xj_W l z pc ls (.int y :: .int x :: st) A := by
  intro ad H locs cells slots lz hI hls hst hlv
  refine lv_icmp_eq B.1 B.2.1 hd ht (fun hc => ?_) (fun hc => ?_)
  · first | exact kt hc (by rw [if_pos hc] at h; exact h) ad H locs cells slots lz hI hls hst.2.2 hlv | exact kt (by simpa using hc) (by rw [if_pos (by simpa using hc)] at h; exact h) ad H locs cells slots lz hI hls hst.2.2 hlv
  · first | exact kf hc (by rw [if_neg hc] at h; exact h) ad H locs cells slots lz hI hls hst.2.2 hlv | exact kf (by simpa using hc) (by rw [if_neg (by simpa using hc)] at h; exact h) ad H locs cells slots lz hI hls hst.2.2 hlv
theorem xg_if_ne (B : xj_B l y0 cc nL ret hs d z) {x : Int32} {off : Int} {tgt : Nat} {P P' : Option xj_R} (hd : decode cc pc = .ok (.ifCond .ne off, 3)) (ht : (pc : Int) + off = (tgt : Int)) (h : (if ¬ x = 0 then P else P') = some (xf_r z)) (kt : ¬ x = 0 → P = some (xf_r z) → xj_W l z tgt ls st A) (kf : ¬ (¬ x = 0) → P' = some (xf_r z) → xj_W l z (pc + 3) ls st A) : xj_W l z pc ls (.int x :: st) A := by
  intro ad H locs cells slots lz hI hls hst hlv
  refine lv_if_ne B.1 B.2.1 hd ht (fun hc => ?_) (fun hc => ?_)
  · first | exact kt hc (by rw [if_pos hc] at h; exact h) ad H locs cells slots lz hI hls hst.2 hlv | exact kt (by simpa using hc) (by rw [if_pos (by simpa using hc)] at h; exact h) ad H locs cells slots lz hI hls hst.2 hlv
  · first | exact kf hc (by rw [if_neg hc] at h; exact h) ad H locs cells slots lz hI hls hst.2 hlv | exact kf (by simpa using hc) (by rw [if_neg (by simpa using hc)] at h; exact h) ad H locs cells slots lz hI hls hst.2 hlv
theorem xg_icmp_ne (B : xj_B l y0 cc nL ret hs d z) {x y : Int32} {off : Int} {tgt : Nat} {P P' : Option xj_R} (hd : decode cc pc = .ok (.if_icmp .ne off, 3)) (ht : (pc : Int) + off = (tgt : Int)) (h : (if ¬ x = y then P else P') = some (xf_r z)) (kt : ¬ x = y → P = some (xf_r z) → xj_W l z tgt ls st A) (kf : ¬ (¬ x = y) → P' = some (xf_r z) → xj_W l z (pc + 3) ls st A) : xj_W l z pc ls (.int y :: .int x :: st) A := by
  intro ad H locs cells slots lz hI hls hst hlv
  refine lv_icmp_ne B.1 B.2.1 hd ht (fun hc => ?_) (fun hc => ?_)
  · first | exact kt hc (by rw [if_pos hc] at h; exact h) ad H locs cells slots lz hI hls hst.2.2 hlv | exact kt (by simpa using hc) (by rw [if_pos (by simpa using hc)] at h; exact h) ad H locs cells slots lz hI hls hst.2.2 hlv
  · first | exact kf hc (by rw [if_neg hc] at h; exact h) ad H locs cells slots lz hI hls hst.2.2 hlv | exact kf (by simpa using hc) (by rw [if_neg (by simpa using hc)] at h; exact h) ad H locs cells slots lz hI hls hst.2.2 hlv
theorem xg_if_lt (B : xj_B l y0 cc nL ret hs d z) {x : Int32} {off : Int} {tgt : Nat} {P P' : Option xj_R} (hd : decode cc pc = .ok (.ifCond .lt off, 3)) (ht : (pc : Int) + off = (tgt : Int)) (h : (if x < 0 then P else P') = some (xf_r z)) (kt : x < 0 → P = some (xf_r z) → xj_W l z tgt ls st A) (kf : ¬ (x < 0) → P' = some (xf_r z) → xj_W l z (pc + 3) ls st A) : xj_W l z pc ls (.int x :: st) A := by
  intro ad H locs cells slots lz hI hls hst hlv
  refine lv_if_lt B.1 B.2.1 hd ht (fun hc => ?_) (fun hc => ?_)
  · first | exact kt hc (by rw [if_pos hc] at h; exact h) ad H locs cells slots lz hI hls hst.2 hlv | exact kt (by simpa using hc) (by rw [if_pos (by simpa using hc)] at h; exact h) ad H locs cells slots lz hI hls hst.2 hlv
  · first | exact kf hc (by rw [if_neg hc] at h; exact h) ad H locs cells slots lz hI hls hst.2 hlv | exact kf (by simpa using hc) (by rw [if_neg (by simpa using hc)] at h; exact h) ad H locs cells slots lz hI hls hst.2 hlv
theorem xg_icmp_lt (B : xj_B l y0 cc nL ret hs d z) {x y : Int32} {off : Int} {tgt : Nat} {P P' : Option xj_R} (hd : decode cc pc = .ok (.if_icmp .lt off, 3)) (ht : (pc : Int) + off = (tgt : Int)) (h : (if x < y then P else P') = some (xf_r z)) (kt : x < y → P = some (xf_r z) → xj_W l z tgt ls st A) (kf : ¬ (x < y) → P' = some (xf_r z) → xj_W l z (pc + 3) ls st A) : xj_W l z pc ls (.int y :: .int x :: st) A := by
  intro ad H locs cells slots lz hI hls hst hlv
  refine lv_icmp_lt B.1 B.2.1 hd ht (fun hc => ?_) (fun hc => ?_)
  · first | exact kt hc (by rw [if_pos hc] at h; exact h) ad H locs cells slots lz hI hls hst.2.2 hlv | exact kt (by simpa using hc) (by rw [if_pos (by simpa using hc)] at h; exact h) ad H locs cells slots lz hI hls hst.2.2 hlv
  · first | exact kf hc (by rw [if_neg hc] at h; exact h) ad H locs cells slots lz hI hls hst.2.2 hlv | exact kf (by simpa using hc) (by rw [if_neg (by simpa using hc)] at h; exact h) ad H locs cells slots lz hI hls hst.2.2 hlv
theorem xg_if_ge (B : xj_B l y0 cc nL ret hs d z) {x : Int32} {off : Int} {tgt : Nat} {P P' : Option xj_R} (hd : decode cc pc = .ok (.ifCond .ge off, 3)) (ht : (pc : Int) + off = (tgt : Int)) (h : (if 0 ≤ x then P else P') = some (xf_r z)) (kt : 0 ≤ x → P = some (xf_r z) → xj_W l z tgt ls st A) (kf : ¬ (0 ≤ x) → P' = some (xf_r z) → xj_W l z (pc + 3) ls st A) : xj_W l z pc ls (.int x :: st) A := by
  intro ad H locs cells slots lz hI hls hst hlv
  refine lv_if_ge B.1 B.2.1 hd ht (fun hc => ?_) (fun hc => ?_)
  · first | exact kt hc (by rw [if_pos hc] at h; exact h) ad H locs cells slots lz hI hls hst.2 hlv | exact kt (by simpa using hc) (by rw [if_pos (by simpa using hc)] at h; exact h) ad H locs cells slots lz hI hls hst.2 hlv
  · first | exact kf hc (by rw [if_neg hc] at h; exact h) ad H locs cells slots lz hI hls hst.2 hlv | exact kf (by simpa using hc) (by rw [if_neg (by simpa using hc)] at h; exact h) ad H locs cells slots lz hI hls hst.2 hlv
theorem xg_icmp_ge (B : xj_B l y0 cc nL ret hs d z) {x y : Int32} {off : Int} {tgt : Nat} {P P' : Option xj_R} (hd : decode cc pc = .ok (.if_icmp .ge off, 3)) (ht : (pc : Int) + off = (tgt : Int)) (h : (if y ≤ x then P else P') = some (xf_r z)) (kt : y ≤ x → P = some (xf_r z) → xj_W l z tgt ls st A) (kf : ¬ (y ≤ x) → P' = some (xf_r z) → xj_W l z (pc + 3) ls st A) : xj_W l z pc ls (.int y :: .int x :: st) A := by
  intro ad H locs cells slots lz hI hls hst hlv
  refine lv_icmp_ge B.1 B.2.1 hd ht (fun hc => ?_) (fun hc => ?_)
  · first | exact kt hc (by rw [if_pos hc] at h; exact h) ad H locs cells slots lz hI hls hst.2.2 hlv | exact kt (by simpa using hc) (by rw [if_pos (by simpa using hc)] at h; exact h) ad H locs cells slots lz hI hls hst.2.2 hlv
  · first | exact kf hc (by rw [if_neg hc] at h; exact h) ad H locs cells slots lz hI hls hst.2.2 hlv | exact kf (by simpa using hc) (by rw [if_neg (by simpa using hc)] at h; exact h) ad H locs cells slots lz hI hls hst.2.2 hlv
theorem xg_if_gt (B : xj_B l y0 cc nL ret hs d z) {x : Int32} {off : Int} {tgt : Nat} {P P' : Option xj_R} (hd : decode cc pc = .ok (.ifCond .gt off, 3)) (ht : (pc : Int) + off = (tgt : Int)) (h : (if 0 < x then P else P') = some (xf_r z)) (kt : 0 < x → P = some (xf_r z) → xj_W l z tgt ls st A) (kf : ¬ (0 < x) → P' = some (xf_r z) → xj_W l z (pc + 3) ls st A) : xj_W l z pc ls (.int x :: st) A := by
  intro ad H locs cells slots lz hI hls hst hlv
  refine lv_if_gt B.1 B.2.1 hd ht (fun hc => ?_) (fun hc => ?_)
  · first | exact kt hc (by rw [if_pos hc] at h; exact h) ad H locs cells slots lz hI hls hst.2 hlv | exact kt (by simpa using hc) (by rw [if_pos (by simpa using hc)] at h; exact h) ad H locs cells slots lz hI hls hst.2 hlv
  · first | exact kf hc (by rw [if_neg hc] at h; exact h) ad H locs cells slots lz hI hls hst.2 hlv | exact kf (by simpa using hc) (by rw [if_neg (by simpa using hc)] at h; exact h) ad H locs cells slots lz hI hls hst.2 hlv
theorem xg_icmp_gt (B : xj_B l y0 cc nL ret hs d z) {x y : Int32} {off : Int} {tgt : Nat} {P P' : Option xj_R} (hd : decode cc pc = .ok (.if_icmp .gt off, 3)) (ht : (pc : Int) + off = (tgt : Int)) (h : (if y < x then P else P') = some (xf_r z)) (kt : y < x → P = some (xf_r z) → xj_W l z tgt ls st A) (kf : ¬ (y < x) → P' = some (xf_r z) → xj_W l z (pc + 3) ls st A) : xj_W l z pc ls (.int y :: .int x :: st) A := by
  intro ad H locs cells slots lz hI hls hst hlv
  refine lv_icmp_gt B.1 B.2.1 hd ht (fun hc => ?_) (fun hc => ?_)
  · first | exact kt hc (by rw [if_pos hc] at h; exact h) ad H locs cells slots lz hI hls hst.2.2 hlv | exact kt (by simpa using hc) (by rw [if_pos (by simpa using hc)] at h; exact h) ad H locs cells slots lz hI hls hst.2.2 hlv
  · first | exact kf hc (by rw [if_neg hc] at h; exact h) ad H locs cells slots lz hI hls hst.2.2 hlv | exact kf (by simpa using hc) (by rw [if_neg (by simpa using hc)] at h; exact h) ad H locs cells slots lz hI hls hst.2.2 hlv
theorem xg_if_le (B : xj_B l y0 cc nL ret hs d z) {x : Int32} {off : Int} {tgt : Nat} {P P' : Option xj_R} (hd : decode cc pc = .ok (.ifCond .le off, 3)) (ht : (pc : Int) + off = (tgt : Int)) (h : (if x ≤ 0 then P else P') = some (xf_r z)) (kt : x ≤ 0 → P = some (xf_r z) → xj_W l z tgt ls st A) (kf : ¬ (x ≤ 0) → P' = some (xf_r z) → xj_W l z (pc + 3) ls st A) : xj_W l z pc ls (.int x :: st) A := by
  intro ad H locs cells slots lz hI hls hst hlv
  refine lv_if_le B.1 B.2.1 hd ht (fun hc => ?_) (fun hc => ?_)
  · first | exact kt hc (by rw [if_pos hc] at h; exact h) ad H locs cells slots lz hI hls hst.2 hlv | exact kt (by simpa using hc) (by rw [if_pos (by simpa using hc)] at h; exact h) ad H locs cells slots lz hI hls hst.2 hlv
  · first | exact kf hc (by rw [if_neg hc] at h; exact h) ad H locs cells slots lz hI hls hst.2 hlv | exact kf (by simpa using hc) (by rw [if_neg (by simpa using hc)] at h; exact h) ad H locs cells slots lz hI hls hst.2 hlv
theorem xg_icmp_le (B : xj_B l y0 cc nL ret hs d z) {x y : Int32} {off : Int} {tgt : Nat} {P P' : Option xj_R} (hd : decode cc pc = .ok (.if_icmp .le off, 3)) (ht : (pc : Int) + off = (tgt : Int)) (h : (if x ≤ y then P else P') = some (xf_r z)) (kt : x ≤ y → P = some (xf_r z) → xj_W l z tgt ls st A) (kf : ¬ (x ≤ y) → P' = some (xf_r z) → xj_W l z (pc + 3) ls st A) : xj_W l z pc ls (.int y :: .int x :: st) A := by
  intro ad H locs cells slots lz hI hls hst hlv
  refine lv_icmp_le B.1 B.2.1 hd ht (fun hc => ?_) (fun hc => ?_)
  · first | exact kt hc (by rw [if_pos hc] at h; exact h) ad H locs cells slots lz hI hls hst.2.2 hlv | exact kt (by simpa using hc) (by rw [if_pos (by simpa using hc)] at h; exact h) ad H locs cells slots lz hI hls hst.2.2 hlv
  · first | exact kf hc (by rw [if_neg hc] at h; exact h) ad H locs cells slots lz hI hls hst.2.2 hlv | exact kf (by simpa using hc) (by rw [if_neg (by simpa using hc)] at h; exact h) ad H locs cells slots lz hI hls hst.2.2 hlv
theorem xg_goto (B : xj_B l y0 cc nL ret hs d z) {off : Int} {tgt : Nat} (hd : decode cc pc = .ok (.goto off, 3)) (ht : (pc : Int) + off = (tgt : Int)) (k : xj_W l z tgt ls st A) : xj_W l z pc ls st A := by
  intro ad H locs cells slots lz hI hls hst hlv
  exact lv_goto B.1 B.2.1 hd ht (k ad H locs cells slots lz hI hls hst hlv)
theorem xg_ifnull (B : xj_B l y0 cc nL ret hs d z) {r : xj_Rf} {off : Int} {tgt : Nat} {P P' : Option xj_R} (hd : decode cc pc = .ok (.ifnull off, 3)) (ht : (pc : Int) + off = (tgt : Int)) (h : (if r = none then P else P') = some (xf_r z)) (kt : r = none → P = some (xf_r z) → xj_W l z tgt ls st A) (kf : ¬ (r = none) → P' = some (xf_r z) → xj_W l z (pc + 3) ls st A) : xj_W l z pc ls (xj_rv r :: st) A := by
  intro ad H locs cells slots lz hI hls hst hlv
  match r with
  | none => exact lv_ifnullN B.1 B.2.1 hd ht (kt rfl (by simpa using h) ad H locs cells slots lz hI hls hst.2 hlv)
  | some (.inl j) => exact lv_ifnull B.1 B.2.1 hd (kf (by simp) (by simpa using h) ad H locs cells slots lz hI hls hst.2 hlv)
  | some (.inr j) => exact lv_ifnull B.1 B.2.1 hd (kf (by simp) (by simpa using h) ad H locs cells slots lz hI hls hst.2 hlv)
theorem xg_ifnonnull (B : xj_B l y0 cc nL ret hs d z) {r : xj_Rf} {off : Int} {tgt : Nat} {P P' : Option xj_R} (hd : decode cc pc = .ok (.ifnonnull off, 3)) (ht : (pc : Int) + off = (tgt : Int)) (h : (if ¬ r = none then P else P') = some (xf_r z)) (kt : ¬ r = none → P = some (xf_r z) → xj_W l z tgt ls st A) (kf : ¬ (¬ r = none) → P' = some (xf_r z) → xj_W l z (pc + 3) ls st A) : xj_W l z pc ls (xj_rv r :: st) A := by
  intro ad H locs cells slots lz hI hls hst hlv
  match r with
  | none => exact lv_ifnonnullN B.1 B.2.1 hd (kf (by simp) (by simpa using h) ad H locs cells slots lz hI hls hst.2 hlv)
  | some (.inl j) => exact lv_ifnonnull B.1 B.2.1 hd ht (kt (by simp) (by simpa using h) ad H locs cells slots lz hI hls hst.2 hlv)
  | some (.inr j) => exact lv_ifnonnull B.1 B.2.1 hd ht (kt (by simp) (by simpa using h) ad H locs cells slots lz hI hls hst.2 hlv)
end Xrows

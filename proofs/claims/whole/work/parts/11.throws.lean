section Xthrows
variable {l : Launch} {z : xj_F} {y0 : MethodName} {cc : ByteArray} {nL : Nat} {ret : Option FieldType} {hs : List (Nat × Nat × Nat × Nat)} {d pc : Nat} {ls : List (Nat × Value)} {st : List Value} {A : xj_H}
/-- the same walk, counted from where it stands now -/
theorem xc_rebase {p : Program} {e : Env} {R : Room} {s : State} {m : MethodId} {args : Array Value} {below : List Frame} {meth : Method} {c : Code} {T : State} {locs : List Loc} {cells slots : Nat}
    (X : Stand p l e R s m args below meth c T locs cells slots) (hc : cells ≤ R.cells) (hs : slots ≤ R.slots) :
    Stand p l e { frames := R.frames, cells := R.cells - cells, slots := R.slots - slots, locals := R.locals } (T.setFrames (.invoking m args :: below)) m args below meth c T [] 0 0 := by
  obtain ⟨g₀, hfr⟩ := X.frames_eq
  have hcur : T.cur < T.threads.size := State.cur_lt_of_frames hfr
  have hf' : (T.setFrames (.invoking m args :: below)).frames = .invoking m args :: below := State.frames_setFrames _ hcur
  have hm' : (T.setFrames (.invoking m args :: below)).vm.method? m = some meth := X.method'
  have h1 := X.cellsAbove (n := R.cells - cells) (by omega)
  have h2 := X.slotsAbove (n := R.slots - slots) (by omega)
  refine ⟨X.admits, X.cas, X.clock, hf', ?_, ?_, hm', X.code, X.here, X.tail, State.WarmedH.refl _, (State.stackLimits_setFrames ..).symm, (State.stackBytes_setFrames ..).symm, ?_⟩
  · have hr := X.room
    have hb := X.book
    simp only [State.hasRoom, Bool.and_eq_true, decide_eq_true_eq] at hr ⊢
    obtain ⟨⟨⟨⟨r1, r2, r3, r4, r5, r6⟩, r7⟩, r8⟩, r9⟩ := hr
    rw [State.localsInUse_invoking X.frames X.method X.code] at r1 r4 r5
    rw [X.frames] at r2 r3
    rw [State.localsInUse_invoking hf' hm' X.code, hf', State.stackLimits_setFrames, State.stackBytes_setFrames, X.limits, X.bytes]
    exact ⟨⟨⟨⟨r1, r2, r3, r4, r5, r6⟩, h1⟩, h2⟩, hb⟩
  · have hh := X.hears
    have hc? : ∀ mm, (T.setFrames (.invoking m args :: below)).code? mm = s.code? mm := fun mm => by
      rw [State.code?_eq, State.code?_eq]
      show (T.vm.method? mm).bind _ = _
      rw [X.warmed.alike.method?]
    unfold State.hears at hh ⊢
    split at hh
    · rw [hc?]; exact hh
    · rfl
    · rfl
    · show (T.vm.method? m).any _ = true
      rw [X.warmed.alike.method?]; exact hh
  · obtain ⟨th, hth, -⟩ := State.frames_cons hf'
    have h := (State.sameButNew.refl (T.setFrames (.invoking m args :: below)) hth).setFrames T.frames (State.cur_lt_of_frames hf')
    have he : (T.setFrames (.invoking m args :: below)).setFrames T.frames = T := by
      obtain ⟨th2, hth2, -⟩ := State.frames_cons hfr
      rw [State.setFrames_setFrames, State.setFrames_self hth2]
    rw [he] at h
    exact h
theorem xj_th_inv {x : String} {r : xj_R} (h : xj_th A x = some r) : 1 ≤ A.2.1 ∧ 6 ≤ A.2.2 ∧ r = (.inr x, (A.1, A.2.1 - 1, A.2.2 - 6)) := by
  unfold xj_th at h
  by_cases hc : 1 ≤ A.2.1 ∧ 6 ≤ A.2.2
  · rw [if_pos hc] at h
    exact ⟨hc.1, hc.2, (Option.some.inj h).symm⟩
  · rw [if_neg hc] at h
    cases h
/-- the words of a 'throw new X(text)' -/
def xj_xw (own : String) (ix is ic : Nat) (X : String) (idx : Nat) (bytes : ByteArray) : Prop :=
  Cond.classLink own ix X ∈ xj_ws ∧ Cond.initialized X ∈ xj_ws ∧ Cond.instantiable X 6 ∈ xj_ws ∧ (∀ w ∈ xh_at own ic X "java/lang/RuntimeException" idx bytes ["java/lang/Exception"], w ∈ xj_ws ∨ w = .isRef (.static Bundle.tN "UNASSIGNED_STACK" Bundle.steD) ∨ w = .isRef (.static Bundle.tN "SUPPRESSED_SENTINEL" Bundle.listD) ∨ w = .laysStatic Bundle.tN "UNASSIGNED_STACK" Bundle.steD ∨ w = .laysStatic Bundle.tN "SUPPRESSED_SENTINEL" Bundle.listD) ∧
  Bundle.fit X = true ∧ (decode bytes 0 = .ok (.aload_n 0, 1) ∧ decode bytes 1 = .ok (.aload_n 1, 1) ∧ decode bytes 2 = .ok (.invokespecial idx, 3) ∧ decode bytes 5 = .ok (.return_, 1)) ∧ ∃ i tx, (own, is, i, tx) ∈ xj_sr
theorem xg_throw (B : xj_B l y0 cc nL ret hs d z) {X : String} {ix is ic idx : Nat} {bytes : ByteArray} (d0 : decode cc pc = .ok (.new ix, 3)) (d3 : decode cc (pc + 3) = .ok (.dup, 1)) (d4 : decode cc (pc + 3 + 1) = .ok (.ldc is, 2)) (d6 : decode cc (pc + 3 + 1 + 2) = .ok (.invokespecial ic, 3)) (d9 : decode cc (pc + 3 + 1 + 2 + 3) = .ok (.athrow, 1))
    (hw : xj_xw y0.cls ix is ic X idx bytes) (hdp : 6 ≤ d) (hout : (tableOf hs).all (fun q => !covers q (pc + 3 + 1 + 2 + 3)) = true) (h : xj_th A X = some (xf_r z)) : xj_W l z pc ls [] A := by
  intro ad H locs cells slots lz hI hls hst hlv T hT X0
  obtain ⟨g1, g2, hr⟩ := xj_th_inv h
  obtain ⟨w1, w2, w3, w4, w5, ⟨v0, v1, v2, v5⟩, i, tx, w8⟩ := hw
  have hpre := xj_pre_at B (T := T) hI hT X0.warmed
  obtain ⟨hx, hb, hml, hret, hlo, htab, hown, hnm, hTt, hK, hS, hP0, hR, htr⟩ := B
  have hc1 : cells + 1 ≤ (xf_R z).cells := by rw [hR]; show cells + 1 ≤ (xf_H z).2.1; have := hI.2.2.2.2.2.2.1; omega
  have hc2 : slots + 6 ≤ (xf_R z).slots := by rw [hR]; show slots + 6 ≤ (xf_H z).2.2; have := hI.2.2.2.2.2.2.2; omega
  have X1 := xc_rebase X0 (by omega) (by omega)
  have hown' : (T.setFrames (.invoking (xf_m z) (xf_a z) :: xf_b z)).vm.findClass y0.cls = some (xf_m z).cls := by
    show T.vm.findClass _ = _
    rw [X0.warmed.alike.findClass]; exact hown
  have hTt' : xj_T (T.setFrames (.invoking (xf_m z) (xf_a z) :: xf_b z)) := hTt.warm X0.warmed
  have hS' : xj_S (xf_g z) (xj_al (xf_g z) ad A T) (T.setFrames (.invoking (xf_m z) (xf_a z) :: xf_b z)) T.heap := hpre.2.2.1
  obtain ⟨vm', cX, kX, f1, f2, f3, f4, X2, st2⟩ := X1.newCold hx (own := y0.cls) (C := X) (index := ix) (n := 6) hown' (hTt'.1 _ w1 _) (hTt'.1 _ w3 _) (hTt'.1 _ w2 _) (g := F0 (xf_m z) pc lz []) rfl (by rw [hb]; exact d0) (by show 0 + 1 ≤ (xf_R z).cells - cells; omega) (by show 0 + 6 ≤ (xf_R z).slots - slots; omega)
  have hcellA : ((T.setVm vm').pushCell { cls := cX, slots := kX.instanceTypes.map defaultValue, vm := .none }).heap[T.heap.size]? = some (freshCell cX kX) := State.heap_pushCell_size _ _
  have hsr := xj_S.str hS' w8
  have hatoms : ∀ w ∈ xh_at y0.cls ic X "java/lang/RuntimeException" idx bytes ["java/lang/Exception"], w.before (xf_a z) (T.setFrames (.invoking (xf_m z) (xf_a z) :: xf_b z)) = true := by
    intro w hw
    rcases w4 w hw with h | rfl | rfl | rfl | rfl
    · exact hTt'.1 _ h _
    · exact xj_L.isRef (s := T.setFrames (.invoking (xf_m z) (xf_a z) :: xf_b z)) hS'.2.2.1
    · exact xj_L.isRef (s := T.setFrames (.invoking (xf_m z) (xf_a z) :: xf_b z)) hS'.2.2.2.1
    · exact xj_L.lays (s := T.setFrames (.invoking (xf_m z) (xf_a z) :: xf_b z)) hS'.2.2.1
    · exact xj_L.lays (s := T.setFrames (.invoking (xf_m z) (xf_a z) :: xf_b z)) hS'.2.2.2.1
  have hk : W (xf_p z) l (xf_e z) { frames := (xf_R z).frames, cells := (xf_R z).cells - cells, slots := (xf_R z).slots - slots, locals := (xf_R z).locals } (T.setFrames (.invoking (xf_m z) (xf_a z) :: xf_b z)) (xf_m z) (xf_a z) (xf_b z) (xf_t z) (xf_c z) ((T.setVm vm').pushCell { cls := cX, slots := kX.instanceTypes.map defaultValue, vm := .none }).heap [] (0 + 1) (0 + 6)
      (fun U => U.status = .running ∧ Ended U (xf_b z) (.threw T.heap.size) ∧ (T.setFrames (.invoking (xf_m z) (xf_a z) :: xf_b z)).WarmedH U.vm ∧ (T.setFrames (.invoking (xf_m z) (xf_a z) :: xf_b z)).sameButNew ({ U with vm := (T.setFrames (.invoking (xf_m z) (xf_a z) :: xf_b z)).vm } : State) [] (0 + 1) (0 + 6) ∧ ∃ ce, U.heap[T.heap.size]? = some ce ∧ (T.setFrames (.invoking (xf_m z) (xf_a z) :: xf_b z)).vm.findClass X = some ce.cls ∧ ce.vm = .none)
      (F0 (xf_m z) (pc + 3) lz [.ref T.heap.size]) := by
    refine lv_dup hx hb d3 rfl ?_
    refine va_ldcS hx hb hown' hsr d4 ?_
    intro T2 hT2 X3
    obtain ⟨U, u1, u2, u3, u4, u5, u6⟩ := xh_own X3 hx htr (own := y0.cls) (cls := X) (Y0 := "java/lang/RuntimeException") (names := ["java/lang/Exception"]) (ic := ic) hown' w5 (by decide +kernel) (by decide +kernel) v0 v1 v2 v5 hatoms f1 f2 (by rw [hT2]; exact hcellA) (Nat.le_refl _) (msg := .ref ((xf_g z).2.2.1 (100 + i))) rfl
      (g := F0 (xf_m z) (pc + 3 + 1 + 2) lz [.ref ((xf_g z).2.2.1 (100 + i)), .ref T.heap.size, .ref T.heap.size]) rfl hlv.1 rfl rfl (rest := []) rfl (by rw [hb]; exact d6) (by rw [hb]; exact d9) (outside_of_table htab hout)
      (by show 5 < (xf_R z).frames; rw [hR]; show 5 < d; omega) (by
        show _ ≤ (xf_R z).locals
        rw [hR]
        show 2 * (F0 (xf_m z) (pc + 3 + 1 + 2) lz [.ref ((xf_g z).2.2.1 (100 + i)), .ref T.heap.size, .ref T.heap.size]).monitorRoom + ([Value.ref T.heap.size].map fun v => v.category).sum + (13 * (1 + 2) + 42) ≤ 40 * d
        have := lv_room (m := xf_m z) (pc := pc + 3 + 1 + 2) (ls := lz) (rest := [.ref ((xf_g z).2.2.1 (100 + i)), .ref T.heap.size, .ref T.heap.size]) (st := [Value.ref T.heap.size]) (by simp [Value.category])
        omega) hlo
    exact ⟨U, u1, u2, u3, u4, u5, u6⟩
  obtain ⟨U, u1, u2, u3, u4, u5, ce, u6, u7, u8⟩ := hk _ rfl X2
  refine ⟨U, st2 _ u1, .threw T.heap.size, u2, u3, ad, locs, cells + 1, slots + 6, hI.1, ?_⟩
  have hkeep : ∀ q : Nat, q < H.size → U.heap[q]? = H[q]? := by
    intro q hq
    have hq' : T.heap[q]? = some (T.heap[q]'(by rw [hT]; exact hq)) := Array.getElem?_eq_getElem _
    have h9 := State.sameButNew.old_cell u5 (a := q) hq'
    rw [← hT, hq']; exact h9
  have hle : H.size ≤ U.heap.size := by rw [← hT]; exact u5.2.1
  have hsame : T.sameButNew ({ U with vm := T.vm } : State) [] 1 6 := by
    obtain ⟨e1, e2, e3, e4, e5, e6⟩ := u5
    refine ⟨?_, e2, e3, e4, e5, e6⟩
    rw [State.setFrames_setFrames] at e1
    exact e1
  have hs2 := X0.same.trans (hsame.setVm (xf_s z).vm)
  rw [List.append_nil] at hs2
  rw [hr]
  refine ⟨hI.2.1, ?_, hI.2.2.2.1, hI.2.2.2.2.1, ⟨Nat.le_trans hI.2.2.2.2.2.1.1 hle, fun q hq hna => ?_⟩, State.WarmedH.trans X0.warmed u4, hs2, hI.2.2.2.2.2.1.2.2, ?_, ?_, T.heap.size, ce, rfl, u6, u8, ?_⟩
  · refine hI.2.2.1.kept (fun k q hk => ?_)
    refine hkeep q.1 ?_
    have h9 := hI.2.2.1 k q hk
    obtain ⟨a, x⟩ := q
    cases x with
    | inl x => exact (Array.getElem?_eq_some_iff.mp h9).1
    | inr x =>
      obtain ⟨r, _, cell, q1, _⟩ := h9
      exact (Array.getElem?_eq_some_iff.mp q1).1
  · rw [hkeep q (Nat.lt_of_lt_of_le hq hI.2.2.2.2.2.1.1)]; exact hI.2.2.2.2.2.1.2.1 q hq hna
  · show cells + 1 + (A.2.1 - 1) ≤ _
    have := hI.2.2.2.2.2.2.1; omega
  · show slots + 6 + (A.2.2 - 6) ≤ _
    have := hI.2.2.2.2.2.2.2; omega
  · have h9 : T.vm.findClass X = some ce.cls := u7
    rw [X0.warmed.alike.findClass] at h9
    exact h9
end Xthrows

section Xcatch
/-- the search gives h and leaves the tables vm' -/
def xh_to (e : Env) (s : State) (f : JFrame) (a : Addr) (h : Handler) (vm' : Vm) : Prop :=
  ∀ (Q : Handler → Pre) (E : CtlPost) (b : Bool) (acts : List Action), wp (findHandler f a) Q E e b acts s ↔ Q h b acts (s.setVm vm')
theorem xh_link {Q : Handler → Pre} {E : CtlPost} {e : Env} {b : Bool} {acts : List Action} {s : State} {f : JFrame} {a : Addr} {x : ExceptionTableEntry} {t : List ExceptionTableEntry} {c : ClassId} {cell : Cell} (hx : covers x f.pc = true) (h0 : x.catchType ≠ 0)
    (hl : s.vm.ClassLinks e.platform f.method.cls x.catchType c) (hcell : s.heap[a]? = some cell) (hobj : ∀ k, cell.vm ≠ .statics k) (hk : ∃ k, s.vm.classes[cell.cls]? = some k) (hc : ∃ k, s.vm.classes[c]? = some k) :
    wp (findHandler.go f a (x :: t)) Q E e b acts s ↔ if s.vm.assignable cell.cls c = true then Q (.found x.handlerPc) b acts (s.setVm (s.vm.noted f.method.cls x.catchType (.cls c))) else wp (findHandler.go f a t) Q E e b acts (s.setVm (s.vm.noted f.method.cls x.catchType (.cls c))) := by
  simp only [covers] at hx
  obtain ⟨ha, ht⟩ := (resolveClass_links e.toSetting hl).op (op := VmOp.resolveClass f.method.cls x.catchType) rfl
  have hal : s.vm.Alike (s.vm.noted f.method.cls x.catchType (.cls c)) := (Vm.Alike.refl s.vm).noted _ _ _
  obtain ⟨k1, hk1⟩ := hk
  obtain ⟨k2, hk2⟩ := hc
  obtain ⟨k1', hk1', -⟩ := hal.2.2 _ _ hk1
  obtain ⟨k2', hk2', -⟩ := hal.2.2 _ _ hk2
  cases hfit : s.vm.assignable cell.cls c with
  | true =>
    have hfit' : (s.vm.noted f.method.cls x.catchType (.cls c)).assignable cell.cls c = true := by rw [hal.assignable]; exact hfit
    simp [findHandler.go, hx, h0, ha, ht, hcell, hobj, hk1', hk2', hfit', VmOp.dirties, VmOp.acts]
  | false =>
    have hfit' : (s.vm.noted f.method.cls x.catchType (.cls c)).assignable cell.cls c = false := by rw [hal.assignable]; exact hfit
    simp [findHandler.go, hx, h0, ha, ht, hcell, hobj, hk1', hk2', hfit', VmOp.dirties, VmOp.acts]
theorem xh_step {tb : Tables} {e : Env} {s target : State} {g : JFrame} {c : Code} {below : List Frame} {a : Addr} (h : At s g.method c below) {pc : Nat} {vm' : Vm}
    (hfind : xh_to e ((s.setTop g).pushFrame (.throwing a)) g a (.found pc) vm') (hrest : Steps tb e below ((s.setVm vm').setTop { g with pc := pc, stack := [.ref a] }) target) : Steps tb e below ((s.setTop g).pushFrame (.throwing a)) target := by
  obtain ⟨hgo, hw⟩ := h.throwing a
  refine Steps.head hgo hw ?_
  have hst : (stepThrowing e ((s.setTop g).pushFrame (.throwing a)) a (.java g :: s.frames.tail)).Is ((((s.setTop g).pushFrame (.throwing a)).setVm vm').setFrames (.java { g with pc := pc, stack := [.ref a] } :: s.frames.tail)) [] := by
    simp only [stepThrowing, searchFrame, vmDo]
    generalize hr : Sem.go _ e false [] ((s.setTop g).pushFrame (.throwing a)) = res
    obtain ⟨as, rfl, ha⟩ := Sem.eq_ok_of hr (a := Handler.found pc) (s' := ((s.setTop g).pushFrame (.throwing a)).setVm vm') (acts' := []) (by simp [hfind _ _ _ _])
    exact ⟨rfl, ha⟩
  rw [stepThread_throwing (frames_entered h.top _), hst.1]
  obtain ⟨g₀, hg⟩ := Option.isSome_iff_exists.mp h.top
  obtain ⟨r, hr⟩ := State.topJava?_eq_some.mp hg
  have hr' : (s.setVm vm').frames = .java g₀ :: r := hr
  rw [State.setTop_of_frames _ hr'] at hrest
  have he : ∀ (F G : List Frame), ((s.setFrames F).setVm vm').setFrames G = (s.setVm vm').setFrames G := fun F G => by
    have h1 : (s.setFrames F).setVm vm' = (s.setVm vm').setFrames F := rfl
    rw [h1, State.setFrames_setFrames]
  rw [hr, List.tail_cons, State.pushFrame, State.setTop_of_frames _ hr, State.setFrames_setFrames, he]
  exact hrest
variable {l : Launch} {z : xj_F} {y0 : MethodName} {cc : ByteArray} {nL : Nat} {ret : Option FieldType} {hs : List (Nat × Nat × Nat × Nat)} {d pc : Nat} {ls : List (Nat × Value)} {st : List Value} {A : xj_H}
/-- the first entry of the table takes it -/
theorem xj_X.catch1 (B : xj_B l y0 cc nL ret hs d z) {x name : String} {q : Nat × Nat × Nat × Nat} {rest : List (Nat × Nat × Nat × Nat)} (hh : hs = q :: rest) (hcov : q.1 ≤ pc ∧ pc < q.2.1) (h0 : q.2.2.2 ≠ 0) (wl : Cond.classLink y0.cls q.2.2.2 name ∈ xj_ws) (wc : Cond.castable x name ∈ xj_ws)
    {i n : Nat} {ig : Instr} (hd : decode cc q.2.2.1 = .ok (ig, n)) (hig : (∃ k : Fin 4, ig = .astore_n k ∧ (k : Nat) = i ∧ n = 1) ∨ (ig = .astore i ∧ n = 2)) (hi : i < nL) (hq : xj_nl i ls) {ls' : List (Nat × Value)} (he : ls.filter (fun q => !(q.1 == i)) = ls') (k : xj_W l z (q.2.2.1 + n) ls' [] A) : xj_X l z pc ls x A := by
  intro ad H locs cells slots lz stC a cell T hI hls hlv hcell hvm hcls hT X
  obtain ⟨hx, hb, hml, hret, hlo, htab, hown, hnm, hTt, hK, hS, hP0, hR, htr⟩ := B
  subst hh
  have hpl : (xf_e z).platform.magicAccessors = ({} : Platform).magicAccessors := by rw [X.admits.platform]
  obtain ⟨cT, hcT, hcl⟩ := Cond.classLink_spec hown (hTt.1 _ wl (xf_a z)) (xf_e z).platform hpl
  obtain ⟨c3, t3, hc3, ht3, hasg⟩ := Cond.castable_spec (hTt.1 _ wc (xf_a z))
  cases hcls.symm.trans hc3
  cases hcT.symm.trans ht3
  obtain ⟨dk, _, _, kt, hdk, _, _, _, _, hkt, _, hopen⟩ := hcl.here
  have hcl₀ := X.warmed.classLinks hcl
  have hW' : (xf_s z).WarmedH (T.vm.noted (xf_m z).cls q.2.2.2 (.cls cT)) := X.warmed.noted hdk hopen (State.rightAt_cls hcl)
  have hal := X.warmed.alike
  obtain ⟨kt', hkt', -⟩ := hal.2.2 _ _ hkt
  have hfit' : T.vm.assignable cell.cls cT = true := by rw [hal.assignable]; exact hasg
  have XV := X.noted hW'
  have hfind : xh_to (xf_e z) ((T.setTop (F0 (xf_m z) pc lz stC)).pushFrame (.throwing a)) (F0 (xf_m z) pc lz stC) a (.found q.2.2.1) (T.vm.noted (xf_m z).cls q.2.2.2 (.cls cT)) := by
    intro Q E b acts
    rw [W.findHandler_eq (s := (T.setTop (F0 (xf_m z) pc lz stC)).pushFrame (.throwing a)) (f := F0 (xf_m z) pc lz stC) X.method' X.code, htab]
    show wp (findHandler.go _ _ (⟨q.1, q.2.1, q.2.2.1, q.2.2.2⟩ :: tableOf rest)) Q E _ b acts _ ↔ _
    refine (xh_link (s := (T.setTop (F0 (xf_m z) pc lz stC)).pushFrame (.throwing a)) (f := F0 (xf_m z) pc lz stC) (a := a) (x := ⟨q.1, q.2.1, q.2.2.1, q.2.2.2⟩) (c := cT) (cell := cell) (by simp [covers, hcov.1, hcov.2]) h0 hcl₀ (by show T.heap[a]? = _; rw [hT]; exact hcell) (by rw [hvm]; intro k h; cases h) (Vm.classAt_of_assignable hfit' ⟨kt', hkt'⟩) ⟨kt', hkt'⟩).trans ?_
    rw [if_pos (show ((T.setTop (F0 (xf_m z) pc lz stC)).pushFrame (.throwing a)).vm.assignable cell.cls cT = true from hfit')]
    exact Iff.rfl
  have hlv0 : lv_has lz (xf_c z).maxLocals (ls.map (fun q => (q.1, xj_v (xf_g z) ad q.2))) := hlv
  have hcont : ∀ lz' : Array Slot, lv_has lz' (xf_c z).maxLocals ((i, Value.ref a) :: ls'.map (fun q => (q.1, xj_v (xf_g z) ad q.2))) → W (xf_p z) l (xf_e z) (xf_R z) (xf_s z) (xf_m z) (xf_a z) (xf_b z) (xf_t z) (xf_c z) H locs cells slots (xj_Q z) (F0 (xf_m z) (q.2.2.1 + n) lz' []) := fun lz' h' =>
    k ad H locs cells slots lz' hI (fun w hw => hls w (by rw [← he] at hw; exact (List.mem_filter.mp hw).1)) trivial ⟨h'.1, h'.2.1, fun w hw => h'.2.2 w (List.mem_cons_of_mem _ hw)⟩
  have hWh : W (xf_p z) l (xf_e z) (xf_R z) (xf_s z) (xf_m z) (xf_a z) (xf_b z) (xf_t z) (xf_c z) H locs cells slots (xj_Q z) (F0 (xf_m z) q.2.2.1 lz [.ref a]) := by
    rcases hig with ⟨kk, rfl, hk, rfl⟩ | ⟨rfl, rfl⟩
    · exact lv_astore_n hx hb hd hk hlv0 (by rw [hml]; exact hi) (by rw [xj_f1 _ _ _ hq, he]) hcont
    · exact lv_astore hx hb hd hlv0 (by rw [hml]; exact hi) (by rw [xj_f1 _ _ _ hq, he]) hcont
  obtain ⟨t, ht1, ht2⟩ := hWh (T.setVm (T.vm.noted (xf_m z).cls q.2.2.2 (.cls cT))) hT XV
  exact ⟨t, xh_step X.here hfind ht1, ht2⟩
/-- the first entry passes it on, the second takes it -/
theorem xj_X.catch2 (B : xj_B l y0 cc nL ret hs d z) {x nm1 name : String} {q1 q : Nat × Nat × Nat × Nat} {rest : List (Nat × Nat × Nat × Nat)} (hh : hs = q1 :: q :: rest) (hcov1 : q1.1 ≤ pc ∧ pc < q1.2.1) (hcov : q.1 ≤ pc ∧ pc < q.2.1) (h01 : q1.2.2.2 ≠ 0) (h0 : q.2.2.2 ≠ 0) (wl1 : Cond.classLink y0.cls q1.2.2.2 nm1 ∈ xj_ws) (wl : Cond.classLink y0.cls q.2.2.2 name ∈ xj_ws)
    (wn : ∀ U, (xf_s z).WarmedH U → ∀ c t, U.findClass x = some c → U.findClass nm1 = some t → U.assignable c t = false) (wc : Cond.castable x name ∈ xj_ws)
    {i n : Nat} {ig : Instr} (hd : decode cc q.2.2.1 = .ok (ig, n)) (hig : (∃ k : Fin 4, ig = .astore_n k ∧ (k : Nat) = i ∧ n = 1) ∨ (ig = .astore i ∧ n = 2)) (hi : i < nL) (hq : xj_nl i ls) {ls' : List (Nat × Value)} (he : ls.filter (fun q => !(q.1 == i)) = ls') (k : xj_W l z (q.2.2.1 + n) ls' [] A) : xj_X l z pc ls x A := by
  intro ad H locs cells slots lz stC a cell T hI hls hlv hcell hvm hcls hT X
  obtain ⟨hx, hb, hml, hret, hlo, htab, hown, hnm, hTt, hK, hS, hP0, hR, htr⟩ := B
  subst hh
  have hpl : (xf_e z).platform.magicAccessors = ({} : Platform).magicAccessors := by rw [X.admits.platform]
  obtain ⟨cN, hcN, hclN⟩ := Cond.classLink_spec hown (hTt.1 _ wl1 (xf_a z)) (xf_e z).platform hpl
  obtain ⟨cT, hcT, hcl⟩ := Cond.classLink_spec hown (hTt.1 _ wl (xf_a z)) (xf_e z).platform hpl
  obtain ⟨c3, t3, hc3, ht3, hasg⟩ := Cond.castable_spec (hTt.1 _ wc (xf_a z))
  cases hcls.symm.trans hc3
  cases hcT.symm.trans ht3
  have hclN₀ := X.warmed.classLinks hclN
  obtain ⟨dkN, _, _, ktN, hdkN, _, _, _, _, hktN, _, hopenN⟩ := hclN.here
  obtain ⟨dk, _, _, kt, hdk, _, _, _, _, hkt, _, hopen⟩ := hcl.here
  have hW1 : (xf_s z).WarmedH (T.vm.noted (xf_m z).cls q1.2.2.2 (.cls cN)) := X.warmed.noted hdkN hopenN (State.rightAt_cls hclN)
  have X1 := X.noted hW1
  have hcl₁ := hW1.classLinks hcl
  have hW' : (xf_s z).WarmedH ((T.vm.noted (xf_m z).cls q1.2.2.2 (.cls cN)).noted (xf_m z).cls q.2.2.2 (.cls cT)) := hW1.noted hdk hopen (State.rightAt_cls hcl)
  have XV := X1.noted hW'
  have hal := X.warmed.alike
  have hal1 := hW1.alike
  obtain ⟨ktN', hktN', -⟩ := hal.2.2 _ _ hktN
  obtain ⟨kt', hkt', -⟩ := hal1.2.2 _ _ hkt
  obtain ⟨kt0, hkt0, -⟩ := hal.2.2 _ _ hkt
  have hfit0 : T.vm.assignable cell.cls cT = true := by rw [hal.assignable]; exact hasg
  have hfit' : (T.vm.noted (xf_m z).cls q1.2.2.2 (.cls cN)).assignable cell.cls cT = true := by rw [hal1.assignable]; exact hasg
  have hno : T.vm.assignable cell.cls cN = false := wn T.vm X.warmed cell.cls cN (by rw [hal.findClass]; exact hcls) (by rw [hal.findClass]; exact hcN)
  have hfind : xh_to (xf_e z) ((T.setTop (F0 (xf_m z) pc lz stC)).pushFrame (.throwing a)) (F0 (xf_m z) pc lz stC) a (.found q.2.2.1) ((T.vm.noted (xf_m z).cls q1.2.2.2 (.cls cN)).noted (xf_m z).cls q.2.2.2 (.cls cT)) := by
    intro Q E b acts
    rw [W.findHandler_eq (s := (T.setTop (F0 (xf_m z) pc lz stC)).pushFrame (.throwing a)) (f := F0 (xf_m z) pc lz stC) X.method' X.code, htab]
    show wp (findHandler.go _ _ (⟨q1.1, q1.2.1, q1.2.2.1, q1.2.2.2⟩ :: ⟨q.1, q.2.1, q.2.2.1, q.2.2.2⟩ :: tableOf rest)) Q E _ b acts _ ↔ _
    refine (xh_link (s := (T.setTop (F0 (xf_m z) pc lz stC)).pushFrame (.throwing a)) (f := F0 (xf_m z) pc lz stC) (a := a) (x := ⟨q1.1, q1.2.1, q1.2.2.1, q1.2.2.2⟩) (c := cN) (cell := cell) (by simp [covers, hcov1.1, hcov1.2]) h01 hclN₀ (by show T.heap[a]? = _; rw [hT]; exact hcell) (by rw [hvm]; intro k h; cases h) (Vm.classAt_of_assignable hfit0 ⟨kt0, hkt0⟩) ⟨ktN', hktN'⟩).trans ?_
    rw [if_neg (show ¬ ((T.setTop (F0 (xf_m z) pc lz stC)).pushFrame (.throwing a)).vm.assignable cell.cls cN = true from by show ¬ T.vm.assignable cell.cls cN = true; rw [hno]; decide)]
    refine (xh_link (s := ((T.setTop (F0 (xf_m z) pc lz stC)).pushFrame (.throwing a)).setVm (T.vm.noted (xf_m z).cls q1.2.2.2 (.cls cN))) (f := F0 (xf_m z) pc lz stC) (a := a) (x := ⟨q.1, q.2.1, q.2.2.1, q.2.2.2⟩) (c := cT) (cell := cell) (by simp [covers, hcov.1, hcov.2]) h0 hcl₁ (by show T.heap[a]? = _; rw [hT]; exact hcell) (by rw [hvm]; intro k h; cases h) (Vm.classAt_of_assignable hfit' ⟨kt', hkt'⟩) ⟨kt', hkt'⟩).trans ?_
    rw [if_pos (show ((((T.setTop (F0 (xf_m z) pc lz stC)).pushFrame (.throwing a)).setVm (T.vm.noted (xf_m z).cls q1.2.2.2 (.cls cN))).vm).assignable cell.cls cT = true from hfit')]
    exact Iff.rfl
  have hlv0 : lv_has lz (xf_c z).maxLocals (ls.map (fun q => (q.1, xj_v (xf_g z) ad q.2))) := hlv
  have hcont : ∀ lz' : Array Slot, lv_has lz' (xf_c z).maxLocals ((i, Value.ref a) :: ls'.map (fun q => (q.1, xj_v (xf_g z) ad q.2))) → W (xf_p z) l (xf_e z) (xf_R z) (xf_s z) (xf_m z) (xf_a z) (xf_b z) (xf_t z) (xf_c z) H locs cells slots (xj_Q z) (F0 (xf_m z) (q.2.2.1 + n) lz' []) := fun lz' h' =>
    k ad H locs cells slots lz' hI (fun w hw => hls w (by rw [← he] at hw; exact (List.mem_filter.mp hw).1)) trivial ⟨h'.1, h'.2.1, fun w hw => h'.2.2 w (List.mem_cons_of_mem _ hw)⟩
  have hWh : W (xf_p z) l (xf_e z) (xf_R z) (xf_s z) (xf_m z) (xf_a z) (xf_b z) (xf_t z) (xf_c z) H locs cells slots (xj_Q z) (F0 (xf_m z) q.2.2.1 lz [.ref a]) := by
    rcases hig with ⟨kk, rfl, hk, rfl⟩ | ⟨rfl, rfl⟩
    · exact lv_astore_n hx hb hd hk hlv0 (by rw [hml]; exact hi) (by rw [xj_f1 _ _ _ hq, he]) hcont
    · exact lv_astore hx hb hd hlv0 (by rw [hml]; exact hi) (by rw [xj_f1 _ _ _ hq, he]) hcont
  obtain ⟨t, ht1, ht2⟩ := hWh (T.setVm ((T.vm.noted (xf_m z).cls q1.2.2.2 (.cls cN)).noted (xf_m z).cls q.2.2.2 (.cls cT))) hT XV
  exact ⟨t, xh_step X.here hfind ht1, ht2⟩
end Xcatch

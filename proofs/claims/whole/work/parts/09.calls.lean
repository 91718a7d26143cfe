section Xcalls
variable {l : Launch} {z : xj_F} {y0 : MethodName} {cc : ByteArray} {nL : Nat} {ret : Option FieldType} {hs : List (Nat × Nat × Nat × Nat)} {d pc : Nat} {ls : List (Nat × Value)} {st : List Value} {A : xj_H}
theorem xj_pre.at {g : xj_G} {ad : Nat → Nat} {A : xj_H} {T U : State} (h : xj_pre g ad A T) (hH : U.heap = T.heap) (hW : T.WarmedH U.vm) : xj_pre g ad A U := by
  obtain ⟨h1, h2, h3, h4, h5, h6⟩ := h
  have he : xj_al g ad A U = xj_al g ad A T := by unfold xj_al; rw [hH]
  refine ⟨h1.warm hW, h2.moved hW.alike, ?_, by rw [hH]; exact h4, h5, h6⟩
  rw [he, hH]
  exact xj_S.warm hW h3
/-- a call by a contract, however it ends -/
theorem xc_pay {p : Program} {e : Env} {R : Room} {s : State} {m : MethodId} {args : Array Value} {below : List Frame} {meth : Method} {c : Code} {T : State} {locs : List Loc} {cells slots : Nat}
    (X : Stand p l e R s m args below meth c T locs cells slots) {y : MethodName} {cy : ByteArray} {nLy : Nat} {rety : Option FieldType} {hsy : List (Nat × Nat × Nat × Nat)} {d' : Nat} {av : List Value} {A : xj_H} {r : xj_R} (hM : xj_M l y cy nLy rety hsy d' av A r) (g : xj_G) (ad : Nat → Nat)
    (hpre : xj_pre g ad A T) (hwa : xj_wst A.1.length av) {mk : MethodId} (hn : T.methodNamed? y = some mk) (hwy : xj_cw y cy nLy rety hsy ∈ xj_ws) (hwi : Cond.initialized y.cls ∈ xj_ws) (hfr : d' + 1 ≤ R.frames) (hlo : 8 + (nLy + 11) + 40 * d' ≤ R.locals) (hce : cells + A.2.1 ≤ R.cells) (hsl : slots + A.2.2 ≤ R.slots)
    {gf : JFrame} {ig : Instr} {len : Nat} (hg : gf.method = m) (hsize : gf.locals.size = c.maxLocals) (hdg : decode c.code gf.pc = .ok (ig, len)) (hW : 2 * gf.monitorRoom + (gf.stack.map fun v => v.category).sum ≤ 8) :
    ∃ (o : Outcome) (t : State) (ad' : Nat → Nat) (L : List Loc) (k n : Nat) (Bt : State), (∀ j, j < A.1.length → ad' j = ad j) ∧ A.1.length ≤ r.2.1.length ∧ va_P g.1 xj_cl (xj_w g ad' r.2.1) Bt.heap ∧ va_D (xj_al g ad A T) (xj_w g ad' r.2.1) ∧ (∀ x ∈ r.2.1, xj_wc r.2.1.length x) ∧ (T.heap.size ≤ Bt.heap.size ∧ ∀ q : Nat, q < T.heap.size → ¬ xj_al g ad A T q → Bt.heap[q]? = T.heap[q]?) ∧
      (∀ q ∈ L, xj_al g ad A T q.base) ∧ k + r.2.2.1 ≤ A.2.1 ∧ n + r.2.2.2 ≤ A.2.2 ∧ t.heap = Bt.heap ∧ xj_O g ad' r T o t ∧ Stand p l e R s m args below meth c Bt (locs ++ L) (cells + k) (slots + n) ∧
      Steps p.tables e below (doInvoke e (T.setTop gf) [] mk (av.map (xj_v g ad)).toArray).1 (match o with
        | .returned v => Bt.setTop { gf with pc := gf.pc + len, stack := v.toList ++ gf.stack }
        | .threw x => (Bt.setTop gf).pushFrame (.throwing x)) := by
  have hcw := hpre.1.1 _ hwy (av.map (xj_v g ad)).toArray
  have hci := hpre.1.1 _ hwi (av.map (xj_v g ad)).toArray
  obtain ⟨methY, cY, hmY, hcY, -, hlY, -, -, -, -⟩ := xj_cw_spec hn hcw
  obtain ⟨kY, hkY, -⟩ := className_of_methodNamed hn
  have hinitY : kY.init = .initialized := Cond.initialized_spec (findClass_of_methodNamed hn) hkY hci
  have h : At T gf.method c below := by rw [hg]; exact X.here
  have happ : (headSpec [xj_cw y cy nLy rety hsy] (xj_rm d' A)).appliesLoose y e.platform (T.calling gf mk (av.map (xj_v g ad)).toArray) = true :=
    Spec.appliesLoose_calling (g := gf) h hdg hn hkY hinitY (X.room_calling (g := gf) (R' := xj_rm d' A) hsize hmY hcY hfr (by rw [hlY]; show _ + _ + _ + 40 * d' ≤ _; omega) hce hsl) (atoms_intro fun w hw => by rw [List.mem_singleton.mp hw]; exact hcw)
  obtain ⟨mid, hmid⟩ := h.above
  have hframes : (T.setTop gf).frames = (.java gf :: mid) ++ below := by rw [State.frames_setTop' gf h.top, hmid]; rfl
  obtain ⟨o, t, hsteps, -, hend, hq⟩ := Steps.callFree (hM g ad) p X.admits X.cas X.clock (acts := []) hframes happ ⟨rfl, hwa, hpre.at rfl (State.WarmedH.refl T)⟩ trivial
  obtain ⟨ad', L, k, n, q1, q2, q3, q4, q5, q6, q7, q8, q9, q10, q11, q12⟩ := hq
  rw [State.frames_setTop' gf h.top] at hend
  obtain ⟨e2, s2, s3, s4, s5, s6⟩ := id q8
  have hW' : T.WarmedH t.vm := q7
  obtain ⟨g₀, hg0⟩ := Option.isSome_iff_exists.mp h.top
  obtain ⟨rr, hr⟩ := State.topJava?_eq_some.mp hg0
  have hr' : (({ T with heap := t.heap, slotsUsed := t.slotsUsed } : State).setVm t.vm).frames = .java g₀ :: rr := hr
  have e3 : t = ({ (T.calling gf mk (av.map (xj_v g ad)).toArray).setFrames t.frames with heap := t.heap, slotsUsed := t.slotsUsed } : State).setVm t.vm := by
    have hh : t = ({ t with vm := (T.calling gf mk (av.map (xj_v g ad)).toArray).vm } : State).setVm t.vm := rfl
    rw [show ({ t with vm := (T.calling gf mk (av.map (xj_v g ad)).toArray).vm } : State) = _ from e2] at hh
    exact hh
  have hsame : T.sameButNew ({ T with heap := t.heap, slotsUsed := t.slotsUsed } : State) L k n := by
    refine ⟨?_, s2, s3, s4, s5, s6⟩
    obtain ⟨th, hth, -⟩ := State.frames_cons hr
    show ({ T with heap := t.heap, slotsUsed := t.slotsUsed } : State) = { T.setFrames T.frames with heap := t.heap, slotsUsed := t.slotsUsed }
    rw [State.setFrames_self hth]
  subst hg
  refine ⟨o, t, ad', L, k, n, (({ T with heap := t.heap, slotsUsed := t.slotsUsed } : State).setVm t.vm), q1, q2, q3, q4, q5, q6, q9, q10, q11, rfl, q12, ⟨X.admits, X.cas, X.clock, X.frames, X.room, X.hears, X.method, X.code, (X.here.setHeapUsed t.heap t.slotsUsed).setVm hW'.alike, X.tail, State.WarmedH.trans X.warmed hW', X.limits, X.bytes, X.same.trans (hsame.setVm s.vm)⟩, ?_⟩
  cases o with
  | returned v =>
    obtain ⟨c₂, i₂, len₂, hc₂, hd₂, hf₂⟩ := hend
    have hcc : c₂ = c := by
      have h1 : t.code? gf.method = T.code? gf.method := by rw [State.code?_eq, State.code?_eq, hW'.alike.method?]
      exact Option.some.inj (hc₂.symm.trans (h1.trans h.code))
    subst hcc
    have hlen : len₂ = len := by rw [hdg] at hd₂; cases hd₂; rfl
    subst hlen
    have hs₂ : t = (({ T with heap := t.heap, slotsUsed := t.slotsUsed } : State).setVm t.vm).setTop { gf with pc := gf.pc + len₂, stack := v.toList ++ gf.stack } := by
      refine e3.trans ?_
      rw [hf₂, State.calling_eq h.top, State.setFrames_setFrames, State.setTop_of_frames _ hr', hr]
      rfl
    show Steps p.tables e below _ ((({ T with heap := t.heap, slotsUsed := t.slotsUsed } : State).setVm t.vm).setTop { gf with pc := gf.pc + len₂, stack := v.toList ++ gf.stack })
    rw [← hs₂]
    exact hsteps
  | threw x =>
    have hf₂ : t.frames = .throwing x :: .java gf :: T.frames.tail := hend
    have hs₂ : t = ((({ T with heap := t.heap, slotsUsed := t.slotsUsed } : State).setVm t.vm).setTop gf).pushFrame (.throwing x) := by
      refine e3.trans ?_
      rw [hf₂, State.calling_eq h.top, State.setFrames_setFrames, State.pushFrame, State.frames_setTop _ hr', State.setTop_of_frames _ hr', State.setFrames_setFrames, hr]
      rfl
    show Steps p.tables e below _ (((({ T with heap := t.heap, slotsUsed := t.slotsUsed } : State).setVm t.vm).setTop gf).pushFrame (.throwing x))
    rw [← hs₂]
    exact hsteps
/-- a thrown object of the class x lies over the frame at pc -/
def xj_X (l : Launch) (z : xj_F) (pc : Nat) (ls : List (Nat × Value)) (x : String) (A : xj_H) : Prop :=
  ∀ (ad : Nat → Nat) (H : Heap) (locs : List Loc) (cells slots : Nat) (lz : Array Slot) (stC : List Value) (a : Addr) (cell : Cell) (T : State), xj_I z ad A H locs cells slots → xj_wls A.1.length ls →
    lv_has lz (xf_c z).maxLocals (ls.map (fun q => (q.1, xj_v (xf_g z) ad q.2))) → H[a]? = some cell → cell.vm = .none → (xf_s z).vm.findClass x = some cell.cls → T.heap = H →
    Stand (xf_p z) l (xf_e z) (xf_R z) (xf_s z) (xf_m z) (xf_a z) (xf_b z) (xf_t z) (xf_c z) T locs cells slots → ∃ t, Steps (xf_p z).tables (xf_e z) (xf_b z) ((T.setTop (F0 (xf_m z) pc lz stC)).pushFrame (.throwing a)) t ∧ xj_Q z t
theorem xj_X.leave (B : xj_B l y0 cc nL ret hs d z) {x : String} (hout : (tableOf hs).all (fun q => !covers q pc) = true) (hr : xf_r z = (.inr x, A)) : xj_X l z pc ls x A := by
  intro ad H locs cells slots lz stC a cell T hI hls hlv hcell hvm hcls hT X
  have htab := B.2.2.2.2.2.1
  have hlocks := B.2.2.2.2.1
  obtain ⟨h1, h2, h3, h4, h5⟩ := X.leaveThrown a (g := F0 (xf_m z) pc lz stC) rfl rfl rfl (outside_of_table htab hout) hlocks
  refine ⟨_, h1, .threw a, h2, h3, ad, locs, cells, slots, hI.1, ?_, ?_, ?_, ?_, ?_, h4, h5, hI.2.2.2.2.2.1.2.2, ?_, ?_, ?_⟩
  · rw [hr]; exact hI.2.1
  · rw [hr]; show va_P _ _ _ T.heap; rw [hT]; exact hI.2.2.1
  · rw [hr]; exact hI.2.2.2.1
  · rw [hr]; exact hI.2.2.2.2.1
  · exact hI.2.2.2.2.2.1.F (t := T.setFrames _) hT
  · rw [hr]; exact hI.2.2.2.2.2.2.1
  · rw [hr]; exact hI.2.2.2.2.2.2.2
  · rw [hr]; exact ⟨a, cell, rfl, by show T.heap[a]? = _; rw [hT]; exact hcell, hvm, hcls⟩
/-- how the machine comes from an invoking instruction at pc to the method y -/
def xj_inv (l : Launch) (z : xj_F) (pc : Nat) (y : MethodName) (n : Nat) (need : Heap → List Value → Prop) : Prop :=
  ∀ (T : State) (locs : List Loc) (cells slots : Nat) (lz : Array Slot) (av rest : List Value), Stand (xf_p z) l (xf_e z) (xf_R z) (xf_s z) (xf_m z) (xf_a z) (xf_b z) (xf_t z) (xf_c z) T locs cells slots → av.length = n → need T.heap av →
    ∃ (vm₁ : Vm) (mk : MethodId), Stand (xf_p z) l (xf_e z) (xf_R z) (xf_s z) (xf_m z) (xf_a z) (xf_b z) (xf_t z) (xf_c z) (T.setVm vm₁) locs cells slots ∧ (T.setVm vm₁).methodNamed? y = some mk ∧
      ∀ target, Steps (xf_p z).tables (xf_e z) (xf_b z) (doInvoke (xf_e z) ((T.setVm vm₁).setTop (F0 (xf_m z) pc lz rest)) [] mk av.toArray).1 target → Steps (xf_p z).tables (xf_e z) (xf_b z) (T.setTop (F0 (xf_m z) pc lz (av.reverse ++ rest))) target
theorem xj_al_sub {ad : Nat → Nat} {H : Heap} {locs : List Loc} {cells slots : Nat} (hI : xj_I z ad A H locs cells slots) {T : State} (hT : T.heap = H) {q : Nat} (h : xj_al (xf_g z) ad A T q) : xj_al (xf_g z) (xf_d z) (xf_H z) (xf_s z) q := by
  rcases h with ⟨k, e, hk⟩ | h
  · exact hI.2.2.2.1.2 k _ hk
  · refine Or.inr (Nat.le_trans hI.2.2.2.2.2.1.1 ?_)
    rw [← hT]; exact h
theorem xj_pre_at (B : xj_B l y0 cc nL ret hs d z) {ad : Nat → Nat} {H : Heap} {locs : List Loc} {cells slots : Nat} (hI : xj_I z ad A H locs cells slots) {T : State} (hT : T.heap = H) (hW : (xf_s z).WarmedH T.vm) : xj_pre (xf_g z) ad A T := by
  obtain ⟨hx, hb, hml, hr, hlo, htab, hown, hnm, hTt, hK, hS, hP0, hR, htr⟩ := B
  refine ⟨hTt.warm hW, hK.moved hW.alike, ?_, by rw [hT]; exact hI.2.2.1, hI.2.2.2.1.weaken (fun _ _ _ _ => trivial), hI.2.2.2.2.1⟩
  rw [hT]
  refine xj_S.warm hW (xj_S.narrow (xj_S.kept hS hI.2.2.2.2.2.1.2.1) (fun q hq => xj_al_sub hI hT ?_))
  exact hq
theorem xj_cat_sum (g : xj_G) (ad : Nat → Nat) (st : List Value) : ((st.map (xj_v g ad)).map fun v => v.category).sum = (st.map fun v => v.category).sum := by
  rw [List.map_map]
  have h : ((fun v : Value => v.category) ∘ xj_v g ad) = fun v => v.category := funext fun v => xj_v_cat _ _ v
  rw [h]
theorem xg_core (B : xj_B l y0 cc nL ret hs d z) {y : MethodName} {cy : ByteArray} {nLy : Nat} {rety : Option FieldType} {hsy : List (Nat × Nat × Nat × Nat)} {d' : Nat} {av : List Value} {r' : xj_R} {need : Heap → List Value → Prop} {ig : Instr} (hd : decode cc pc = .ok (ig, 3)) (hinv : xj_inv l z pc y av.length need)
    (hneed : ∀ ad H locs cells slots, xj_I z ad A H locs cells slots → need H (av.map (xj_v (xf_g z) ad))) (hM : xj_M l y cy nLy rety hsy d' av A r') (hwy : xj_cw y cy nLy rety hsy ∈ xj_ws) (hwi : Cond.initialized y.cls ∈ xj_ws) (hdd : d' + 1 ≤ d) (hnLy : nLy ≤ 21) (hst8 : (st.map fun v => v.category).sum ≤ 8)
    (kr : ∀ v, r'.1 = .inl v → xj_W l z (pc + 3) ls (v.toList ++ st) r'.2) (kt : ∀ x, r'.1 = .inr x → xj_X l z pc ls x r'.2) : xj_W l z pc ls (av.reverse ++ st) A := by
  intro ad H locs cells slots lz hI hls hst hlv T hT X
  obtain ⟨hwav, hwst⟩ := xj_wst_app hst
  have hwa : xj_wst A.1.length av := xj_wst_mem fun v hv => xj_wst_of hwav v (List.mem_reverse.mpr hv)
  obtain ⟨vm₁, mk, X₁, hn, hstep⟩ := hinv T locs cells slots lz (av.map (xj_v (xf_g z) ad)) (st.map (xj_v (xf_g z) ad)) X (by simp) (by rw [hT]; exact hneed _ _ _ _ _ hI)
  have hpre := xj_pre_at B (T := T.setVm vm₁) hI hT X₁.warmed
  have hb := B.2.1
  have hml := B.2.2.1
  have hR := B.2.2.2.2.2.2.2.2.2.2.2.2.1
  obtain ⟨o, t, ad', L, k, n, Bt, q1, q2, q3, q4, q5, q6, q9, q10, q11, q12, q13, XB, hsteps⟩ := xc_pay X₁ hM (xf_g z) ad hpre hwa hn hwy hwi (by rw [hR]; exact hdd) (by rw [hR]; show _ ≤ 40 * d; omega) (by rw [hR]; exact hI.2.2.2.2.2.2.1) (by rw [hR]; exact hI.2.2.2.2.2.2.2)
    (gf := F0 (xf_m z) pc lz (st.map (xj_v (xf_g z) ad))) (ig := ig) (len := 3) rfl hlv.1 (by rw [hb]; exact hd) (lv_room (by rw [xj_cat_sum]; exact hst8))
  have hal : ∀ q, xj_al (xf_g z) ad A (T.setVm vm₁) q → xj_al (xf_g z) (xf_d z) (xf_H z) (xf_s z) q := fun q hq => xj_al_sub hI (T := T.setVm vm₁) hT hq
  have hTh : (T.setVm vm₁).heap = H := hT
  rw [hTh] at q6
  have hI' : xj_I z ad' r'.2 Bt.heap (locs ++ L) (cells + k) (slots + n) := by
    refine ⟨fun j hj => ?_, Nat.le_trans hI.2.1 q2, q3, q4.weaken (fun _ _ _ h => hal _ h), q5, ?_, ?_, ?_⟩
    · rw [q1 j (Nat.lt_of_lt_of_le hj hI.2.1)]; exact hI.1 j hj
    · refine ⟨Nat.le_trans hI.2.2.2.2.2.1.1 q6.1, fun q hq hna => ?_, fun q hq => ?_⟩
      · rw [q6.2 q (Nat.lt_of_lt_of_le hq hI.2.2.2.2.2.1.1) (fun h => hna (hal q h))]
        exact hI.2.2.2.2.2.1.2.1 q hq hna
      · rcases List.mem_append.mp hq with h | h
        · exact hI.2.2.2.2.2.1.2.2 q h
        · exact hal _ (q9 q h)
    · have := hI.2.2.2.2.2.2.1; omega
    · have := hI.2.2.2.2.2.2.2; omega
  have hls' : xj_wls r'.2.1.length ls := xj_wls_mono q2 hls
  have hlv' : lv_has lz (xf_c z).maxLocals (ls.map (fun q => (q.1, xj_v (xf_g z) ad' q.2))) := by rw [xj_ls_same q1 hls]; exact hlv
  have hgoal : (av.reverse ++ st).map (xj_v (xf_g z) ad) = (av.map (xj_v (xf_g z) ad)).reverse ++ st.map (xj_v (xf_g z) ad) := by rw [List.map_append, List.map_reverse]
  rw [hgoal]
  unfold xj_O at q13
  cases hr1 : r'.1 with
  | inl v =>
    rw [hr1] at q13
    obtain ⟨ho, hwv⟩ := q13
    subst ho
    have hwst' : xj_wst r'.2.1.length (v.toList ++ st) := by
      cases v with
      | none => exact xj_wst_mono q2 hwst
      | some w => exact ⟨hwv w rfl, xj_wst_mono q2 hwst⟩
    obtain ⟨t', ht1, ht2⟩ := kr v hr1 ad' Bt.heap (locs ++ L) (cells + k) (slots + n) lz hI' hls' hwst' hlv' Bt rfl XB
    refine ⟨t', hstep _ (hsteps.trans ?_), ht2⟩
    have he : (v.toList ++ st).map (xj_v (xf_g z) ad') = (v.map (xj_v (xf_g z) ad')).toList ++ st.map (xj_v (xf_g z) ad) := by
      rw [List.map_append, xj_st_same q1 hwst]
      cases v <;> rfl
    rw [he] at ht1
    exact ht1
  | inr x =>
    rw [hr1] at q13
    obtain ⟨a, cell, ho, hc1, hc2, hc3⟩ := q13
    subst ho
    rw [q12] at hc1
    obtain ⟨t', ht1, ht2⟩ := kt x hr1 ad' Bt.heap (locs ++ L) (cells + k) (slots + n) lz (st.map (xj_v (xf_g z) ad)) a cell Bt hI' hls' hlv' hc1 hc2 (by rw [← X₁.warmed.alike.findClass]; exact hc3) rfl XB
    exact ⟨t', hstep _ (hsteps.trans ht1), ht2⟩
/-! The three ways of invoking. -/
theorem xj_inv_static (B : xj_B l y0 cc nL ret hs d z) {y : MethodName} {cy : ByteArray} {nLy n index : Nat} {rety : Option FieldType} {hsy : List (Nat × Nat × Nat × Nat)} (hd : decode cc pc = .ok (.invokestatic index, 3))
    (hl : Cond.methodLink y0.cls index y ∈ xj_ws ∨ ∃ host, Cond.methodLinkNest y0.cls index y host ∈ xj_nw) (hst : Cond.static y ∈ xj_ws) (hwy : xj_cw y cy nLy rety hsy ∈ xj_ws) (hwi : Cond.initialized y.cls ∈ xj_ws) (hy : y.cls ≠ "java/lang/invoke/MethodHandle" ∧ y.cls ≠ "java/lang/invoke/VarHandle") (hn : (parseMethodDescriptor y.desc).map (fun q => q.parameters.length) = some n) :
    xj_inv l z pc y n (fun _ _ => True) := by
  intro T locs cells slots lz av rest X hav _
  obtain ⟨hx, hb, hml, hr, hlo, htab, hown, hnm, hTt, hK, hS, hP0, hR, htr⟩ := B
  obtain ⟨mk, hnamed⟩ := xj_cw_named (hTt.1 _ hwy #[])
  obtain ⟨methM, cM, hmethM, -, -, -, -, -, -, hsigM⟩ := xj_cw_spec hnamed (hTt.1 _ hwy #[])
  have hstatic : methM.isStatic = true := Cond.static_spec hnamed hmethM (hTt.1 _ hst #[])
  obtain ⟨kP, hkP, -⟩ := className_of_methodNamed hnamed
  have hinitP : kP.init = .initialized := Cond.initialized_spec (findClass_of_methodNamed hnamed) hkP (hTt.1 _ hwi #[])
  have hlen : av.length = methM.sig.parameters.length := by
    rw [hsigM] at hn
    rw [hav]; exact (Option.some.inj hn).symm
  rcases hl with hl | ⟨host, hl⟩
  · obtain ⟨vm₁, X₁, hstep₁⟩ := X.invokestatic hx hown (hTt.1 _ hl _) hnamed hmethM hstatic hkP hinitP hy (g := F0 (xf_m z) pc lz (av.reverse ++ rest)) rfl (argsL := av) (rest := rest) hlen rfl (by rw [hb]; exact hd)
    exact ⟨vm₁, mk, X₁, X₁.named hnamed, fun target h => hstep₁ _ fun acts => by rw [doInvoke_state]; exact h⟩
  · obtain ⟨vm₁, X₁, hstep₁⟩ := X.invokestaticNest hx hown (va_Nw.use rfl (hTt.2 _ hl)) hnamed hmethM hstatic hkP hinitP hy (g := F0 (xf_m z) pc lz (av.reverse ++ rest)) rfl (argsL := av) (rest := rest) hlen rfl (by rw [hb]; exact hd)
    exact ⟨vm₁, mk, X₁, X₁.named hnamed, fun target h => hstep₁ _ fun acts => by rw [doInvoke_state]; exact h⟩
theorem xj_inv_virtual (B : xj_B l y0 cc nL ret hs d z) {y : MethodName} {n index : Nat} {C : String} (hd : decode cc pc = .ok (.invokevirtual index, 3))
    (hl : Cond.methodLink y0.cls index y ∈ xj_ws ∨ ∃ host, Cond.methodLinkNest y0.cls index y host ∈ xj_nw) (hst : Cond.instanceMethod y ∈ xj_ws) (hse : Cond.selects C y y ∈ xj_ws) (hy : y.cls ≠ "java/lang/invoke/MethodHandle" ∧ y.cls ≠ "java/lang/invoke/VarHandle") (hn : (parseMethodDescriptor y.desc).map (fun q => q.parameters.length) = some n) (hcd : ∃ w ∈ xj_ws, ∃ cy nLy rety hsy, w = xj_cw y cy nLy rety hsy) :
    xj_inv l z pc y (n + 1) (fun H av => ∃ (b : Addr) (as : List Value) (cell : Cell), av = .ref b :: as ∧ H[b]? = some cell ∧ cell.vm.isStatics = false ∧ (xf_s z).vm.findClass C = some cell.cls) := by
  intro T locs cells slots lz av rest X hav ⟨b, as, cl0, hab, hcell, hobj, hcls⟩
  subst hab
  obtain ⟨hx, hb, hml, hr, hlo, htab, hown, hnm, hTt, hK, hS, hP0, hR, htr⟩ := B
  obtain ⟨w, hw, cy, nLy, rety, hsy, rfl⟩ := hcd
  obtain ⟨mk, methM, hnamed, hmethM, hstM, habM⟩ := Cond.instanceMethod_spec (hTt.1 _ hst #[])
  obtain ⟨methM', cM, hmethM', -, -, -, -, -, -, hsigM⟩ := xj_cw_spec hnamed (hTt.1 _ hw #[])
  cases hmethM.symm.trans hmethM'
  obtain ⟨c2, r2, m2, q1, q2, q3, q4, kP, hkP, hkPi⟩ := Cond.selects_spec (hTt.1 _ hse #[])
  cases hcls.symm.trans q1
  cases (State.methodFound?_of_named hnamed hy).symm.trans q2
  cases hnamed.symm.trans q3
  have hselP : selectMethod (xf_e z).platform (xf_s z).vm cl0.cls mk = .method mk := by rw [Launch.admits_selectMethod X.admits]; exact q4
  have hlen : as.length = methM.sig.parameters.length := by
    rw [hsigM] at hn
    have h2 : _ = n := Option.some.inj hn
    have h3 : as.length + 1 = n + 1 := hav
    exact (Nat.succ.inj h3).trans h2.symm
  have hst : (Value.ref b :: as).reverse ++ rest = as.reverse ++ .ref b :: rest := by simp
  rcases hl with hl | ⟨host, hl⟩
  · obtain ⟨vm₁, X₁, hstep₁⟩ := X.invokevirtual hx hown (hTt.1 _ hl _) hnamed hmethM hstM hkP hkPi hy (a := b) (cell := cl0) hcell (fun q h => by rw [h] at hobj; cases hobj) hselP hmethM habM hkP hkPi (g := F0 (xf_m z) pc lz ((Value.ref b :: as).reverse ++ rest)) rfl (argsL := as) (rest := rest) hlen hst (by rw [hb]; exact hd)
    exact ⟨vm₁, mk, X₁, X₁.named hnamed, fun target h => hstep₁ _ fun acts => by rw [doInvoke_state]; exact h⟩
  · obtain ⟨vm₁, X₁, hstep₁⟩ := X.invokevirtualNest hx hown (va_Nw.use rfl (hTt.2 _ hl)) hnamed hmethM hstM hkP hkPi hy (a := b) (cell := cl0) hcell (fun q h => by rw [h] at hobj; cases hobj) hselP hmethM habM hkP hkPi (g := F0 (xf_m z) pc lz ((Value.ref b :: as).reverse ++ rest)) rfl (argsL := as) (rest := rest) hlen hst (by rw [hb]; exact hd)
    exact ⟨vm₁, mk, X₁, X₁.named hnamed, fun target h => hstep₁ _ fun acts => by rw [doInvoke_state]; exact h⟩
theorem xj_inv_init (B : xj_B l y0 cc nL ret hs d z) {y : MethodName} {cy : ByteArray} {nLy n index : Nat} (hd : decode cc pc = .ok (.invokespecial index, 3)) (hy1 : y.name = "<init>")
    (hl : Cond.methodLink y0.cls index y ∈ xj_ws ∨ ∃ host, Cond.methodLinkNest y0.cls index y host ∈ xj_nw) (hst : Cond.instanceMethod y ∈ xj_ws) (hwy : Cond.code y cy nLy none ∈ xj_ws) (hy : y.cls ≠ "java/lang/invoke/MethodHandle" ∧ y.cls ≠ "java/lang/invoke/VarHandle") (hn : (parseMethodDescriptor y.desc).map (fun q => q.parameters.length) = some n) :
    xj_inv l z pc y (n + 1) (fun _ av => ∃ (b : Addr) (as : List Value), av = .ref b :: as) := by
  intro T locs cells slots lz av rest X hav ⟨b, as, hab⟩
  subst hab
  obtain ⟨hx, hb, hml, hr, hlo, htab, hown, hnm, hTt, hK, hS, hP0, hR, htr⟩ := B
  have hpl : (xf_e z).platform.magicAccessors = ({} : Platform).magicAccessors := by rw [X.admits.platform]
  have hlen : ∀ sig, parseMethodDescriptor y.desc = some sig → as.length = sig.parameters.length := fun sig h => by
    rw [h] at hn
    have h2 : _ = n := Option.some.inj hn
    have h3 : as.length + 1 = n + 1 := hav
    exact (Nat.succ.inj h3).trans h2.symm
  have hst' : (Value.ref b :: as).reverse ++ rest = as.reverse ++ .ref b :: rest := by simp
  rcases hl with hl | ⟨host, hl⟩
  · obtain ⟨mk, methM, cM, kP, vm₁, hnamed, hmethM, hcodeM, -, hlocalsM, -, hkP, -, hW₁, hstep₁⟩ := Steps.initColdArgs (e := xf_e z) X.here hx X.warmed hpl hown hy1 hy (hTt.1 _ hl #[]) (hTt.1 _ hst #[]) (hTt.1 _ hwy #[]) (f := F0 (xf_m z) pc lz ((Value.ref b :: as).reverse ++ rest)) rfl hlen hst' (by rw [hb]; exact hd)
    have X₁ := X.noted hW₁
    exact ⟨vm₁, mk, X₁, X₁.named hnamed, fun target h => hstep₁ _ fun acts => by rw [doInvoke_state]; exact h⟩
  · obtain ⟨mk, methM, cM, kP, vm₁, hnamed, hmethM, hcodeM, -, hlocalsM, -, hkP, -, hW₁, hstep₁⟩ := Steps.initColdArgsNest (e := xf_e z) X.here hx X.warmed hpl hown hy1 hy (va_Nw.use (A := #[]) rfl (hTt.2 _ hl)) (hTt.1 _ hst #[]) (hTt.1 _ hwy #[]) (f := F0 (xf_m z) pc lz ((Value.ref b :: as).reverse ++ rest)) rfl hlen hst' (by rw [hb]; exact hd)
    have X₁ := X.noted hW₁
    exact ⟨vm₁, mk, X₁, X₁.named hnamed, fun target h => hstep₁ _ fun acts => by rw [doInvoke_state]; exact h⟩
end Xcalls

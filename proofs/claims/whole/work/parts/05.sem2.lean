/-! The words of the tables, and how they ride on. -/
def xj_T (U : State) : Prop := (∀ w ∈ xj_ws, ∀ a : Array Value, w.before a U = true) ∧ ∀ w ∈ xj_nw, va_Nw w U
theorem xj_T.warm {s U : State} (hW : s.WarmedH U.vm) (h : xj_T s) : xj_T U := by
  refine ⟨fun w hw a => ?_, fun w hw => ?_⟩
  · rcases xj_ws_good w hw with hg | ⟨x, y, rfl⟩ | ⟨x, rfl⟩
    · exact word_at hW (good_of_word hg) (h.1 w hw #[])
    · exact xj_cast hW.alike (h.1 _ hw #[])
    · exact va_Nw.use rfl (va_Nw.warmD hW (va_Nw.of rfl (h.1 _ hw #[])))
  rcases xj_nw_nest w hw with ⟨a, i, b, n, d, k, rfl⟩ | ⟨a, i, x, k, rfl⟩
  · exact va_Nw.warmF hW (h.2 _ hw)
  · exact va_Nw.warmM hW (h.2 _ hw)
def xj_cw (y : MethodName) (cc : ByteArray) (nL : Nat) (ret : Option FieldType) (hs : List (Nat × Nat × Nat × Nat)) : Cond := match hs with
  | [] => .code y cc nL ret
  | q :: r => .codeWith y cc nL ret (q :: r)
theorem xj_cw_spec {y : MethodName} {cc : ByteArray} {nL : Nat} {ret : Option FieldType} {hs : List (Nat × Nat × Nat × Nat)} {s : State} {m : MethodId} {args : Array Value} (hn : s.methodNamed? y = some m) (h : (xj_cw y cc nL ret hs).before args s = true) :
    ∃ meth c, s.vm.method? m = some meth ∧ meth.code = some c ∧ c.code = cc ∧ c.maxLocals = nL ∧ meth.sig.returnType = ret ∧ meth.locks = false ∧ c.exceptionTable.toList = tableOf hs ∧ parseMethodDescriptor y.desc = some meth.sig := by
  cases hs with
  | nil =>
    obtain ⟨meth, c, h1, h2, h3, h4, h5, h6, h7, h8⟩ := Cond.code_spec hn h
    refine ⟨meth, c, h1, h2, h3, h4, h5, h6, ?_, h8⟩
    have : c.exceptionTable = #[] := by simpa [Array.isEmpty] using h7
    rw [this]; rfl
  | cons q r =>
    obtain ⟨m', meth, c, h0, h1, h2, h3, h4, h7, h5, h6, h8⟩ := Cond.codeWith_spec h
    cases hn.symm.trans h0
    exact ⟨meth, c, h1, h2, h3, h4, h5, h6, by rw [← h7, table_eq], h8⟩
theorem xj_cw_named {y : MethodName} {cc : ByteArray} {nL : Nat} {ret : Option FieldType} {hs : List (Nat × Nat × Nat × Nat)} {s : State} {args : Array Value} (h : (xj_cw y cc nL ret hs).before args s = true) : ∃ m, s.methodNamed? y = some m := by
  cases hs with
  | nil => exact Cond.code_named h
  | cons q r =>
    obtain ⟨m', meth, c, h0, -⟩ := Cond.codeWith_spec h
    exact ⟨m', h0⟩
/-! A frame: all that is fixed while a method's body runs. -/
abbrev xj_F : Type := Program × Env × Room × State × MethodId × Array Value × List Frame × Method × Code × xj_G × (Nat → Nat) × xj_H × xj_R
abbrev xf_p (z : xj_F) : Program := z.1
abbrev xf_e (z : xj_F) : Env := z.2.1
abbrev xf_R (z : xj_F) : Room := z.2.2.1
abbrev xf_s (z : xj_F) : State := z.2.2.2.1
abbrev xf_m (z : xj_F) : MethodId := z.2.2.2.2.1
abbrev xf_a (z : xj_F) : Array Value := z.2.2.2.2.2.1
abbrev xf_b (z : xj_F) : List Frame := z.2.2.2.2.2.2.1
abbrev xf_t (z : xj_F) : Method := z.2.2.2.2.2.2.2.1
abbrev xf_c (z : xj_F) : Code := z.2.2.2.2.2.2.2.2.1
abbrev xf_g (z : xj_F) : xj_G := z.2.2.2.2.2.2.2.2.2.1
abbrev xf_d (z : xj_F) : Nat → Nat := z.2.2.2.2.2.2.2.2.2.2.1
abbrev xf_H (z : xj_F) : xj_H := z.2.2.2.2.2.2.2.2.2.2.2.1
abbrev xf_r (z : xj_F) : xj_R := z.2.2.2.2.2.2.2.2.2.2.2.2
def xj_al (g : xj_G) (ad : Nat → Nat) (A : xj_H) (s : State) : Nat → Prop := va_A (xj_w g ad A.1) s.heap.size
def xj_rm (d : Nat) (A : xj_H) : Room := { frames := d, cells := A.2.1, slots := A.2.2, locals := 40 * d }
/-- how a frame ends: the outcome, and the cells behind it -/
def xj_O (g : xj_G) (ad : Nat → Nat) (r : xj_R) (s : State) (o : Outcome) (t : State) : Prop := match r.1 with
  | .inl v => o = .returned (v.map (xj_v g ad)) ∧ ∀ w, v = some w → xj_wv r.2.1.length w
  | .inr x => ∃ (a : Addr) (cell : Cell), o = .threw a ∧ t.heap[a]? = some cell ∧ cell.vm = .none ∧ s.vm.findClass x = some cell.cls
def xj_E (g : xj_G) (ad0 : Nat → Nat) (A0 : xj_H) (r : xj_R) (s : State) (o : Outcome) (t : State) : Prop :=
  ∃ (ad : Nat → Nat) (L : List Loc) (k n : Nat), (∀ j, j < A0.1.length → ad j = ad0 j) ∧ A0.1.length ≤ r.2.1.length ∧
    va_P g.1 xj_cl (xj_w g ad r.2.1) t.heap ∧ va_D (xj_al g ad0 A0 s) (xj_w g ad r.2.1) ∧ (∀ x ∈ r.2.1, xj_wc r.2.1.length x) ∧ va_F (xj_al g ad0 A0 s) s t ∧
    s.WarmedH t.vm ∧ s.sameButNew ({ t with vm := s.vm } : State) L k n ∧ (∀ q ∈ L, xj_al g ad0 A0 s q.base) ∧ k + r.2.2.1 ≤ A0.2.1 ∧ n + r.2.2.2 ≤ A0.2.2 ∧ xj_O g ad r s o t
def xj_Q (z : xj_F) (t : State) : Prop := ∃ o, t.status = .running ∧ Ended t (xf_b z) o ∧ xj_E (xf_g z) (xf_d z) (xf_H z) (xf_r z) (xf_s z) o t
/-- the cells stand in the heap -/
def xj_I (z : xj_F) (ad : Nat → Nat) (A : xj_H) (H : Heap) (locs : List Loc) (cells slots : Nat) : Prop :=
  (∀ j, j < (xf_H z).1.length → ad j = xf_d z j) ∧ (xf_H z).1.length ≤ A.1.length ∧
    va_P (xf_g z).1 xj_cl (xj_w (xf_g z) ad A.1) H ∧ va_D (xj_al (xf_g z) (xf_d z) (xf_H z) (xf_s z)) (xj_w (xf_g z) ad A.1) ∧ (∀ x ∈ A.1, xj_wc A.1.length x) ∧
    va_S (xj_al (xf_g z) (xf_d z) (xf_H z) (xf_s z)) (xf_s z).heap H locs ∧ cells + A.2.1 ≤ (xf_H z).2.1 ∧ slots + A.2.2 ≤ (xf_H z).2.2
def xj_W (l : Launch) (z : xj_F) (pc : Nat) (ls : List (Nat × Value)) (st : List Value) (A : xj_H) : Prop :=
  ∀ (ad : Nat → Nat) (H : Heap) (locs : List Loc) (cells slots : Nat) (lz : Array Slot), xj_I z ad A H locs cells slots → xj_wls A.1.length ls → xj_wst A.1.length st →
    lv_has lz (xf_c z).maxLocals (ls.map (fun q => (q.1, xj_v (xf_g z) ad q.2))) →
    W (xf_p z) l (xf_e z) (xf_R z) (xf_s z) (xf_m z) (xf_a z) (xf_b z) (xf_t z) (xf_c z) H locs cells slots (xj_Q z) (F0 (xf_m z) pc lz (st.map (xj_v (xf_g z) ad)))
/-- what holds of a frame of the method y -/
def xj_B (l : Launch) (y : MethodName) (cc : ByteArray) (nL : Nat) (ret : Option FieldType) (hs : List (Nat × Nat × Nat × Nat)) (d : Nat) (z : xj_F) : Prop :=
  (xf_p z).tables.exec = Jvm.exec ∧ (xf_c z).code = cc ∧ (xf_c z).maxLocals = nL ∧ (xf_t z).sig.returnType = ret ∧ (xf_t z).locks = false ∧ (xf_c z).exceptionTable.toList = tableOf hs ∧
    (xf_s z).vm.findClass y.cls = some (xf_m z).cls ∧ (xf_t z).name = y.name ∧ xj_T (xf_s z) ∧ va_K (xf_g z).1 xj_cl (xj_tys (xf_g z)) (xf_s z) ∧
    xj_S (xf_g z) (xj_al (xf_g z) (xf_d z) (xf_H z) (xf_s z)) (xf_s z) (xf_s z).heap ∧ va_P (xf_g z).1 xj_cl (xj_w (xf_g z) (xf_d z) (xf_H z).1) (xf_s z).heap ∧
    xf_R z = xj_rm d (xf_H z) ∧ (xf_e z).platform.stackTraces = false
def xj_pre (g : xj_G) (ad : Nat → Nat) (A : xj_H) (U : State) : Prop := xj_T U ∧ va_K g.1 xj_cl (xj_tys g) U ∧ xj_S g (xj_al g ad A U) U U.heap ∧ va_P g.1 xj_cl (xj_w g ad A.1) U.heap ∧ va_D (fun _ => True) (xj_w g ad A.1) ∧ ∀ x ∈ A.1, xj_wc A.1.length x
/-- a method's contract for arguments av and cells A: it ends with r -/
def xj_M (l : Launch) (y : MethodName) (cc : ByteArray) (nL : Nat) (ret : Option FieldType) (hs : List (Nat × Nat × Nat × Nat)) (d : Nat) (av : List Value) (A : xj_H) (r : xj_R) : Prop :=
  ∀ (g : xj_G) (ad : Nat → Nat), MetFree l y (headSpec [xj_cw y cc nL ret hs] (xj_rm d A)) (fun a U => a = (av.map (xj_v g ad)).toArray ∧ xj_wst A.1.length av ∧ xj_pre g ad A U) (fun _ _ _ _ _ => True) (fun _ U o t => xj_E g ad A r U o t)
theorem xj_lva (g : xj_G) (ad : Nat → Nat) : ∀ (i : Nat) (av : List Value), lv_args i (av.map (xj_v g ad)) = (lv_args i av).map (fun q => (q.1, xj_v g ad q.2))
  | _, [] => rfl
  | i, v :: vs => by
    simp only [List.map_cons, lv_args, xj_v_cat]
    rw [xj_lva g ad _ vs]
theorem xj_lva_mem : ∀ {i : Nat} {av : List Value} {q : Nat × Value}, q ∈ lv_args i av → q.2 ∈ av
  | i, v :: vs, q, h => by
    simp only [lv_args, List.mem_cons] at h
    rcases h with rfl | h
    · exact List.mem_cons_self
    · exact List.mem_cons_of_mem _ (xj_lva_mem h)
theorem xj_sl_len (g : xj_G) (ad : Nat → Nat) : ∀ av : List Value, (lg_sl (av.map (xj_v g ad))).length = (lg_sl av).length
  | [] => rfl
  | v :: vs => by
    have h := xj_sl_len g ad vs
    simp only [lg_sl, List.map_cons, List.flatMap_cons, List.length_append, xj_v_cat] at h ⊢
    rw [h]
    by_cases hc : v.category = 2 <;> simp [hc]
theorem xj_M.of {l : Launch} (hl : l.stackTraces = false) {y : MethodName} {cc : ByteArray} {nL : Nat} {ret : Option FieldType} {hs : List (Nat × Nat × Nat × Nat)} {d : Nat} {av : List Value} {A : xj_H} {r : xj_R} (hy : plainFor y = true) (hn : (lg_sl av).length ≤ nL)
    (body : ∀ z : xj_F, xj_B l y cc nL ret hs d z → xf_H z = A → xf_r z = r → xj_W l z 0 (lv_args 0 av) [] A) : xj_M l y cc nL ret hs d av A r := by
  intro g ad
  refine MetFree.of_bodySF (code := cc) (maxLocals := nL) (ret := ret) hy ?_ ?_
  · intro args s m h hn
    obtain ⟨meth, c, h1, h2, h3, h4, h5, h6, -, -⟩ := xj_cw_spec hn (atoms_spec (ws := [xj_cw y cc nL ret hs]) h _ List.mem_cons_self)
    exact ⟨meth, c, h1, h2, h3, h4, h5, h6⟩
  · intro p e s m args below meth c s₁ B hml ⟨ha, hwa, hT, hK, hS, hP, hD, hw⟩ _
    have hh0 : s₁.heap = s.heap := by rw [B.state]; rfl
    obtain ⟨meth', c', h1, h2, -, -, -, -, h7, -⟩ := xj_cw_spec B.named (atoms_spec (ws := [xj_cw y cc nL ret hs]) B.pre _ List.mem_cons_self)
    have X := Stand.of_body B
    cases B.method.symm.trans h1
    cases X.code.symm.trans h2
    have hnm := (name_of_methodNamed B.named B.method).1
    have htr : e.platform.stackTraces = false := by rw [X.admits.platform]; exact hl
    have hW := body (p, e, (headSpec [xj_cw y cc nL ret hs] (xj_rm d A)).room, s, m, args, below, meth, c, g, ad, A, r)
      ⟨B.exec, B.bytes, hml, B.returns, B.notSynchronized, h7, findClass_of_methodNamed B.named, hnm, hT, hK, hS, hP, rfl, htr⟩ rfl rfl
    have hlv := lv_entry (av.map (xj_v g ad)) (n := nL) (by rw [xj_sl_len]; exact hn)
    rw [xj_lva] at hlv
    have hk := hW ad s.heap [] 0 0 _ ⟨fun _ _ => rfl, Nat.le_refl _, hP, hD.self, hw, va_S.rf, by simp, by simp⟩ (fun q hq => xj_wst_of hwa _ (xj_lva_mem hq)) trivial (by
      show lv_has _ c.maxLocals _
      rw [hml]; exact hlv)
    obtain ⟨t, a1, o, b1, b2, b3⟩ := hk s₁ hh0 X
    refine ⟨t, o, ?_, b1, b2, b3⟩
    rw [ha, lg_entry_eq]
    exact a1

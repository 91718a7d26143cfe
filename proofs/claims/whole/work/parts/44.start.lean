/-! The law's entry: what the Statement gives makes a frame of the abstract machine. -/
theorem xs_Scongr {N : Nat} {len : List Nat} {byt : List (List Int32)} {k k' v v' : Nat → Nat} {A : Nat → Prop} {U : State} {H : Heap} (hk : ∀ i, i < N → k' i = k i) (hv : ∀ i, i < N → v' i = v i) (h : vk_S N len byt k v A U H) : vk_S N len byt k' v' A U H :=
  ⟨fun i hi => by rw [hk i hi, hv i hi]; exact h.1 i hi, fun i j hi hj e => h.2 i j hi hj (by rw [← hk i hi, ← hk j hj]; exact e)⟩
theorem xs_Econgr {E d : String} {nm : List String} {k k' : Nat → Nat} {A : Nat → Prop} {U : State} {H : Heap} (hk : ∀ i, i < nm.length → k' i = k i) (h : va_En E d nm [] k A U H) : va_En E d nm [] k' A U H :=
  ⟨fun i hi => by rw [hk i hi]; exact h.1 i hi, fun i j hi hj e => h.2 i j hi hj (by rw [← hk i hi, ← hk j hj]; exact e)⟩
def xs_sp (aE aK aV : Nat → Nat) (t f b : Nat) (i : Nat) : Nat := if i < 50 then aE i else if i = 50 then t else if i = 60 then f else if i < 200 then aK (i - 100) else if i = 200 then b else aV (i - 300)
theorem xs_S {s : State} {b L : Nat} {xs : Nat → Int32} {A : Nat → Prop} (hts : ∀ w ∈ tables_1, w.before #[Value.ref b] s = true) (hgv : (Jvm.Cond.and given_1 narrow_1).before #[Value.ref b] s = true) (hX : va_X b L xs s s.heap) (hA : ∀ a : Nat, a < s.heap.size → ¬ A a) (hb : b < s.heap.size) :
    ∃ sp : Nat → Nat, sp 200 = b ∧ ∀ (D : va_G) (cA : Nat → ClassId), xj_S (D, cA, sp, xs, L) A s s.heap := by
  have hf := flat_of_before _ hgv
  obtain ⟨aK, aV, hS, hev⟩ := vk_Sof (A := A) xs_s7 (fun i hi => hf _ (xs_s1 i hi)) (fun i hi => hf _ (xs_s2 i hi)) (fun i hi => hf _ (xs_s3 i hi)) (fun i hi => hf _ (xs_s4 i hi)) (fun i hi j hj => hf _ (xs_s5 i hi j hj))
    (fun i j hi hj hij => (xs_s6 i hi j hj hij).elim (fun h => Or.inl (hf _ h)) (fun h => Or.inr (hf _ h))) hA
  obtain ⟨aE, hE⟩ := va_Enof (E := xj_fq) (d := "LRecurrenceBook$Frequency;") (nm := xj_fn) (F := []) (A := A) (fun i hi => hts _ (xs_e3 i hi)) (hts _ xs_i4) (fun i hi => hf _ (xs_e1 i hi)) (fun q hq => nomatch hq)
    (fun i j hi hj hij => (xs_e2 i hi j hj hij).elim (fun h => Or.inl (hf _ h)) (fun h => Or.inr (hf _ h))) hA
  obtain ⟨t, ht, hT⟩ := va_Tof (N := 12) (f := fun j => .int (xj_dm.getD j 0)) (A := A) (by decide) (hf _ xs_t1) (va_eqt (hf _ xs_t2)) (fun j hj => va_eqt (hf _ (xs_t3 j hj))) hA
  have hZt := va_Zof (A := A) (hts _ xs_l1) (hts _ xs_i1) ht hA
  have hZc := va_Zof (A := A) (hts _ xs_l2) (hts _ xs_i2) (va_eqt (hf _ xs_c1)) hA
  have hZf := va_Zqof (A := A) (hts _ xs_l3) (hts _ xs_i3) (hf _ xs_f1) hA
  obtain ⟨f, hZf⟩ : ∃ f, va_Z xj_jp "SIOOBE_FORMATTER" xj_jf .null A s s.heap ∨ va_Z xj_jp "SIOOBE_FORMATTER" xj_jf (.ref f) A s s.heap := by
    rcases hZf with h | ⟨t, h⟩
    · exact ⟨0, Or.inl h⟩
    · exact ⟨t, Or.inr h⟩
  refine ⟨xs_sp aE aK aV t f b, rfl, fun D cA => ⟨xs_Scongr (fun i hi => ?_) (fun i hi => ?_) hS, va_AO.of (hts _ xs_o1), xj_L.of (hts _ xs_l4) (hf _ xs_u1) hA, xj_L.of (hts _ xs_l5) (hf _ xs_u2) hA, xs_Econgr (fun i hi => ?_) hE, hZt, hT, fun q hq => ?_, hZc, hZf, ⟨hX, hA _ hb⟩, va_Nc.of (hf _ xs_n1)⟩⟩
  · show xs_sp aE aK aV t f b (100 + i) = aK i
    unfold xs_sp
    rw [if_neg (by omega), if_neg (by omega), if_neg (by omega), if_pos (by omega)]
    rw [Nat.add_sub_cancel_left]
  · show xs_sp aE aK aV t f b (300 + i) = aV i
    unfold xs_sp
    rw [if_neg (by omega), if_neg (by omega), if_neg (by omega), if_neg (by omega), if_neg (by omega)]
    rw [Nat.add_sub_cancel_left]
  · show xs_sp aE aK aV t f b i = aE i
    have hi4 : i < 4 := hi
    unfold xs_sp
    rw [if_pos (by omega)]
  · obtain ⟨i, hi⟩ := List.getElem?_of_mem hq
    have hlt : i < 22 := (List.getElem?_eq_some_iff.mp hi).1
    obtain ⟨h1, h2⟩ := xs_r1 i hlt q hi
    have h3 := hev i hlt
    have h4 : xs_tm i = .string q.1 q.2.1 := by unfold xs_tm; rw [hi]
    rw [h4] at h3
    refine vk_R.of (hts _ h1) ?_
    show _ = some (Value.ref (xs_sp aE aK aV t f b (100 + q.2.2.1)))
    rw [h2]
    have h5 : xs_sp aE aK aV t f b (100 + i) = aK i := by
      unfold xs_sp
      rw [if_neg (by omega), if_neg (by omega), if_neg (by omega), if_pos (by omega)]
      rw [Nat.add_sub_cancel_left]
    rw [h5]
    exact h3
theorem xs_arr {s : State} {args : Array Value} {ty : FieldType} (hn : ∀ C, ty ≠ .object C) (h : (Cond.arrayClass ty).before args s = true) : ∃ cA : ClassId, ArrOfT s cA ty ∧ va_RA s cA ty := by
  obtain ⟨c, k, comp, h1, h2, h3⟩ := Cond.arrayClass_spec h
  refine ⟨c, fun n z => ⟨fun k h => (by cases h), k, h2, comp, h3⟩, ?_⟩
  cases ty with
  | object C => exact absurd rfl (hn C)
  | _ => exact h1
theorem xs_arrO {s : State} {args : Array Value} {C : String} (h : (Cond.arrayOver (.object C)).before args s = true) : ∃ cA : ClassId, ArrOfT s cA (.object C) ∧ va_RA s cA (.object C) := by
  obtain ⟨comp, c, k, h1, h2, h3, h4, h5⟩ := Cond.arrayOver_spec h
  exact ⟨c, fun n z => ⟨fun k h => (by cases h), k, h3, comp, h4⟩, k, comp, h3, h4, h1, h5⟩
def xs_pk {α : Type} (d : α) (l : List α) (i : Nat) : α := l.getD i d
theorem xs_K {s : State} {b : Nat} (hT : xj_T s) (hts : ∀ w ∈ tables_1, w.before #[Value.ref b] s = true) : ∃ (D : va_G) (cA : Nat → ClassId), ∀ (sp : Nat → Nat) (xs : Nat → Int32) (L : Nat), va_K D xj_cl (xj_tys (D, cA, sp, xs, L)) s := by
  have hws : ∀ w ∈ xj_ws, w.before #[Value.ref b] s = true := fun w hw => hT.1 w hw _
  obtain ⟨c0, i0, h0⟩ := u_known hws xk0_in (hts _ xs_k0)
  obtain ⟨c1, i1, h1⟩ := u_known hws xk1_in (hts _ xs_k1)
  obtain ⟨c2, i2, h2⟩ := u_known hws xk2_in (hts _ xs_k2)
  obtain ⟨c3, i3, h3⟩ := u_known hws xk3_in (hts _ xs_k3)
  obtain ⟨c4, i4, h4⟩ := u_known hws xk4_in (hts _ xs_k4)
  obtain ⟨c5, i5, h5⟩ := u_known hws xk5_in (hts _ xs_k5)
  obtain ⟨c6, i6, h6⟩ := u_known hws xk6_in (hts _ xs_k6)
  obtain ⟨c7, i7, h7⟩ := u_known hws xk7_in (hts _ xs_k7)
  obtain ⟨a0, g0⟩ := xs_arr (fun _ h => by cases h) (hts _ xs_a0)
  obtain ⟨a1, g1⟩ := xs_arr (fun _ h => by cases h) (hts _ xs_a1)
  obtain ⟨a2, g2⟩ := xs_arr (fun _ h => by cases h) (hts _ xs_a2)
  obtain ⟨a3, g3⟩ := xs_arr (fun _ h => by cases h) (hts _ xs_a3)
  obtain ⟨a4, g4⟩ := xs_arrO (hts _ xs_o1)
  refine ⟨(xs_pk 0 [c0, c1, c2, c3, c4, c5, c6, c7], xs_pk (fun _ => 0) [i0, i1, i2, i3, i4, i5, i6, i7]), xs_pk 0 [a0, a1, a2, a3, a4], fun sp xs L => ⟨fun c q hq => ?_, fun k q hq => ?_⟩⟩
  · match c, hq with
    | 0, hq => cases hq; exact h0
    | 1, hq => cases hq; exact h1
    | 2, hq => cases hq; exact h2
    | 3, hq => cases hq; exact h3
    | 4, hq => cases hq; exact h4
    | 5, hq => cases hq; exact h5
    | 6, hq => cases hq; exact h6
    | 7, hq => cases hq; exact h7
    | n + 8, hq => simp [xj_cl] at hq
  · match k, hq with
    | 0, hq => cases hq; exact g0
    | 1, hq => cases hq; exact g1
    | 2, hq => cases hq; exact g2
    | 3, hq => cases hq; exact g3
    | 4, hq => cases hq; exact g4
    | n + 5, hq => simp [xj_tys] at hq
theorem xs_T {s : State} {b : Nat} (hts : ∀ w ∈ lw_tbl, w.before #[Value.ref b] s = true) : xj_T s := by
  refine ⟨fun w hw a => ?_, fun w hw => ?_⟩
  · have h := hts w (List.mem_filter.mp hw).1
    rcases xj_ws_good w hw with hg | ⟨x, y, rfl⟩ | ⟨x, rfl⟩
    · exact word_at (State.WarmedH.refl s) (good_of_word hg) h
    · exact xj_cast (Vm.Alike.refl s.vm) h
    · exact va_Nw.use rfl (va_Nw.of rfl h)
  · have h := hts w (List.mem_append_right _ (List.mem_filter.mp hw).1)
    rcases xj_nw_nest w hw with ⟨a, i, b, n, d, k, rfl⟩ | ⟨a, i, x, k, rfl⟩
    · exact va_Nw.of rfl h
    · exact va_Nw.of rfl h
theorem xs_room {p : Program} {l : Launch} {e : Env} {R R' : Room} {s : State} {m : MethodId} {args : Array Value} {below : List Frame} {meth : Method} {c : Code} {T : State} {locs : List Loc} {cells slots : Nat} (h1 : R'.frames ≤ R.frames) (h2 : R'.cells ≤ R.cells) (h3 : R'.slots ≤ R.slots) (h4 : R'.locals ≤ R.locals)
    (X : Stand p l e R s m args below meth c T locs cells slots) : Stand p l e R' s m args below meth c T locs cells slots := by
  refine ⟨X.admits, X.cas, X.clock, X.frames, ?_, X.hears, X.method, X.code, X.here, X.tail, X.warmed, X.limits, X.bytes, X.same⟩
  have h := X.room
  simp only [State.hasRoom, Bool.and_eq_true, decide_eq_true_eq] at h ⊢
  obtain ⟨⟨⟨⟨r1, r2, r3, r4, r5, r6⟩, r7⟩, r8⟩, r9⟩ := h
  exact ⟨⟨⟨⟨by omega, by omega, by omega, by omega, by omega, r6⟩, by omega⟩, by omega⟩, r9⟩
def xs_A0 : xj_H := ([], 601024, 7293034)
theorem xs_start {p : Program} {e : Env} {s : State} {m : MethodId} {below : List Frame} {meth : Method} {c : Code} (l : Launch) (hl : l.stackTraces = false) {b L : Nat} {xs : Nat → Int32} (C0 : lw_At p s m meth c b L xs) (hnm : meth.name = "law") (htab : c.exceptionTable.toList = []) {A' : xj_H} (hf : fL_law xs L xs_A0 = some (.inl (some (.int 1)), A')) :
    W p l e room_1 s m #[Value.ref b] below meth c s.heap [] 0 0 (lw_Z below #[Value.ref b] s) (entryFrame m ([Value.ref b] : List Value).toArray 7) := by
  obtain ⟨hx, hb, hr, hml, hown, hts, hX, hbl, hlk, hgv⟩ := C0
  have hts1 : ∀ w ∈ tables_1, w.before #[Value.ref b] s = true := fun w hw => hts w (List.mem_append_right _ hw)
  have hT := xs_T hts
  obtain ⟨D, cA, hK⟩ := xs_K hT hts1
  obtain ⟨sp, hsp, hS⟩ := xs_S (A := fun q => s.heap.size ≤ q) hts1 hgv hX (fun a ha => by omega) hbl
  intro T hTh X
  have X' : Stand p l e (xj_rm 12 xs_A0) s m #[Value.ref b] below meth c T [] 0 0 := xs_room (by decide) (by decide) (by decide) (by decide) X
  have htr : e.platform.stackTraces = false := by rw [X.admits.platform]; exact hl
  have hal : ∀ q, xj_al (D, cA, sp, xs, L) (fun _ => 0) xs_A0 s q ↔ s.heap.size ≤ q := fun q => ⟨fun h => by
    rcases h with ⟨k, e, hk⟩ | h
    · simp [xs_A0, xj_w] at hk
    · exact h, fun h => Or.inr h⟩
  have hP0 : va_P D xj_cl (xj_w (D, cA, sp, xs, L) (fun _ => 0) xs_A0.1) s.heap := fun k q hk => by simp [xs_A0, xj_w] at hk
  have hD0 : ∀ A : Nat → Prop, va_D A (xj_w (D, cA, sp, xs, L) (fun _ => 0) xs_A0.1) := fun A => ⟨fun i j p q hi => by simp [xs_A0, xj_w] at hi, fun k q hk => by simp [xs_A0, xj_w] at hk⟩
  have B : xj_B l yL_law code 7 (some .boolean) [] 12 (p, e, xj_rm 12 xs_A0, s, m, #[Value.ref b], below, meth, c, (D, cA, sp, xs, L), fun _ => 0, xs_A0, (.inl (some (.int 1)), A')) :=
    ⟨hx, hb, hml, hr, hlk, htab, hown, hnm, hT, hK sp xs L, xj_S.narrow (hS D cA) (fun q hq => (hal q).mp hq), hP0, rfl, htr⟩
  have hW := wL_law hl B xs_A0 hf
  have hlv := lv_entry [Value.ref b] (n := 7) (by simp [lg_sl, Value.category])
  have hk := hW (fun _ => 0) s.heap [] 0 0 _ ⟨fun _ _ => rfl, Nat.le_refl _, hP0, hD0 _, fun x hx => by simp [xs_A0] at hx, va_S.rf, by simp [xs_A0], by simp [xs_A0]⟩ (fun q hq => by rw [List.mem_singleton.mp hq]; trivial) trivial (by
    show lv_has _ c.maxLocals [(0, Value.ref (sp 200))]
    rw [hml, hsp]; exact hlv)
  obtain ⟨t, st, o, hrun, hend, ad, L1, k, n, q1, q2, q3, q4, q5, q6, q7, q8, q9, q10, q11, q12⟩ := hk T hTh X'
  rw [lg_entry_eq]
  refine ⟨t, st, o, hrun, hend, ?_, ?_, q7, q8.weaken (fun y hy hlt => ?_) ?_ ?_⟩
  · exact q12.1
  · exact ⟨_, q12.1⟩
  · have h9 := (hal _).mp (q9 y hy)
    exact absurd hlt (Nat.not_lt.mpr h9)
  · have : k + A'.2.1 ≤ 601024 := q10
    omega
  · have : n + A'.2.2 ≤ 7293034 := q11
    omega

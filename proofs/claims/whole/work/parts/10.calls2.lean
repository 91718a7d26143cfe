section Xcalls2
variable {l : Launch} {z : xj_F} {y0 : MethodName} {cc : ByteArray} {nL : Nat} {ret : Option FieldType} {hs : List (Nat × Nat × Nat × Nat)} {d pc : Nat} {ls : List (Nat × Value)} {st : List Value} {A : xj_H}
def xj_go (l : Launch) (z : xj_F) (pc : Nat) (A : xj_H) (y : MethodName) (av : List Value) : Prop := ∃ need : Heap → List Value → Prop, xj_inv l z pc y av.length need ∧ ∀ ad H locs cells slots, xj_I z ad A H locs cells slots → need H (av.map (xj_v (xf_g z) ad))
def xj_is (A : xj_H) (o : xj_Rf) (ci : Nat) : Bool := match o with
  | some (.inl a) => match A.1[a]? with
    | some (.inr q) => q.1 == ci
    | _ => false
  | _ => false
def xj_rq (A : xj_H) (o : xj_Rf) (ci : Nat) (F : Option xj_R) : Option xj_R := if xj_is A o ci = true then F else none
theorem xj_is_inv {o : xj_Rf} {ci : Nat} (h : xj_is A o ci = true) : ∃ (a : Nat) (fs : List Value), o = some (.inl a) ∧ A.1[a]? = some (.inr (ci, fs)) := by
  unfold xj_is at h
  split at h
  · rename_i a
    split at h
    · rename_i q hq
      have := beq_iff_eq.mp h
      exact ⟨a, q.2, rfl, by rw [hq, ← this]⟩
    · cases h
  · cases h
theorem xj_rq_i {o : xj_Rf} {ci : Nat} {F : Option xj_R} {K : Int32 → xj_H → Option xj_R} {r : xj_R} (h : xj_bi (xj_rq A o ci F) K = some r) : xj_is A o ci = true ∧ xj_bi F K = some r := by
  unfold xj_rq at h
  by_cases hc : xj_is A o ci = true
  · rw [if_pos hc] at h; exact ⟨hc, h⟩
  · rw [if_neg hc] at h; cases h
theorem xj_rq_l {o : xj_Rf} {ci : Nat} {F : Option xj_R} {K : Int64 → xj_H → Option xj_R} {r : xj_R} (h : xj_bl (xj_rq A o ci F) K = some r) : xj_is A o ci = true ∧ xj_bl F K = some r := by
  unfold xj_rq at h
  by_cases hc : xj_is A o ci = true
  · rw [if_pos hc] at h; exact ⟨hc, h⟩
  · rw [if_neg hc] at h; cases h
theorem xj_rq_r {o : xj_Rf} {ci : Nat} {F : Option xj_R} {K : xj_Rf → xj_H → Option xj_R} {r : xj_R} (h : xj_br (xj_rq A o ci F) K = some r) : xj_is A o ci = true ∧ xj_br F K = some r := by
  unfold xj_rq at h
  by_cases hc : xj_is A o ci = true
  · rw [if_pos hc] at h; exact ⟨hc, h⟩
  · rw [if_neg hc] at h; cases h
theorem xj_rq_v {o : xj_Rf} {ci : Nat} {F : Option xj_R} {K : xj_H → Option xj_R} {r : xj_R} (h : xj_bv (xj_rq A o ci F) K = some r) : xj_is A o ci = true ∧ xj_bv F K = some r := by
  unfold xj_rq at h
  by_cases hc : xj_is A o ci = true
  · rw [if_pos hc] at h; exact ⟨hc, h⟩
  · rw [if_neg hc] at h; cases h
theorem xj_bi_inv {F : Option xj_R} {K : Int32 → xj_H → Option xj_R} {r : xj_R} (h : xj_bi F K = some r) : (∃ v A', F = some (.inl (some (.int v)), A') ∧ K v A' = some r) ∨ ∃ x A', F = some (.inr x, A') ∧ r = (.inr x, A') := by
  unfold xj_bi at h
  split at h
  · exact Or.inl ⟨_, _, rfl, h⟩
  · exact Or.inr ⟨_, _, rfl, (Option.some.inj h).symm⟩
  · cases h
theorem xj_bl_inv {F : Option xj_R} {K : Int64 → xj_H → Option xj_R} {r : xj_R} (h : xj_bl F K = some r) : (∃ v A', F = some (.inl (some (.long v)), A') ∧ K v A' = some r) ∨ ∃ x A', F = some (.inr x, A') ∧ r = (.inr x, A') := by
  unfold xj_bl at h
  split at h
  · exact Or.inl ⟨_, _, rfl, h⟩
  · exact Or.inr ⟨_, _, rfl, (Option.some.inj h).symm⟩
  · cases h
theorem xj_br_inv {F : Option xj_R} {K : xj_Rf → xj_H → Option xj_R} {r : xj_R} (h : xj_br F K = some r) : (∃ v A', F = some (.inl (some (xj_rv v)), A') ∧ K v A' = some r) ∨ ∃ x A', F = some (.inr x, A') ∧ r = (.inr x, A') := by
  unfold xj_br at h
  split at h
  · obtain ⟨q, h1, h2⟩ := Option.bind_eq_some_iff.mp h
    exact Or.inl ⟨q, _, by rw [xj_vr_inv h1], h2⟩
  · exact Or.inr ⟨_, _, rfl, (Option.some.inj h).symm⟩
  · cases h
theorem xj_bv_inv {F : Option xj_R} {K : xj_H → Option xj_R} {r : xj_R} (h : xj_bv F K = some r) : (∃ A', F = some (.inl none, A') ∧ K A' = some r) ∨ ∃ x A', F = some (.inr x, A') ∧ r = (.inr x, A') := by
  unfold xj_bv at h
  split at h
  · exact Or.inl ⟨_, rfl, h⟩
  · exact Or.inr ⟨_, _, rfl, (Option.some.inj h).symm⟩
  · cases h
def xj_sw (own : String) (index : Nat) (y : MethodName) (cy : ByteArray) (nLy : Nat) (rety : Option FieldType) (hsy : List (Nat × Nat × Nat × Nat)) (n : Nat) : Prop :=
  (Cond.methodLink own index y ∈ xj_ws ∨ ∃ host, Cond.methodLinkNest own index y host ∈ xj_nw) ∧ Cond.static y ∈ xj_ws ∧ xj_cw y cy nLy rety hsy ∈ xj_ws ∧ Cond.initialized y.cls ∈ xj_ws ∧ (y.cls ≠ "java/lang/invoke/MethodHandle" ∧ y.cls ≠ "java/lang/invoke/VarHandle") ∧ (parseMethodDescriptor y.desc).map (fun q => q.parameters.length) = some n
def xj_vw (own : String) (index : Nat) (ci : Nat) (y : MethodName) (cy : ByteArray) (nLy : Nat) (rety : Option FieldType) (hsy : List (Nat × Nat × Nat × Nat)) (n : Nat) : Prop :=
  ∃ (C : String) (T : u_T) (N : Nat), xj_cl[ci]? = some (C, T, N) ∧ (Cond.methodLink own index y ∈ xj_ws ∨ ∃ host, Cond.methodLinkNest own index y host ∈ xj_nw) ∧ Cond.instanceMethod y ∈ xj_ws ∧ Cond.selects C y y ∈ xj_ws ∧ xj_cw y cy nLy rety hsy ∈ xj_ws ∧ Cond.initialized y.cls ∈ xj_ws ∧ (y.cls ≠ "java/lang/invoke/MethodHandle" ∧ y.cls ≠ "java/lang/invoke/VarHandle") ∧ (parseMethodDescriptor y.desc).map (fun q => q.parameters.length) = some n
def xj_iw (own : String) (index : Nat) (y : MethodName) (cy : ByteArray) (nLy : Nat) (n : Nat) : Prop :=
  (Cond.methodLink own index y ∈ xj_ws ∨ ∃ host, Cond.methodLinkNest own index y host ∈ xj_nw) ∧ Cond.instanceMethod y ∈ xj_ws ∧ Cond.code y cy nLy none ∈ xj_ws ∧ Cond.initialized y.cls ∈ xj_ws ∧ (y.cls ≠ "java/lang/invoke/MethodHandle" ∧ y.cls ≠ "java/lang/invoke/VarHandle") ∧ (parseMethodDescriptor y.desc).map (fun q => q.parameters.length) = some n ∧ y.name = "<init>"
theorem xj_go_s (B : xj_B l y0 cc nL ret hs d z) {y : MethodName} {cy : ByteArray} {nLy n index : Nat} {rety : Option FieldType} {hsy : List (Nat × Nat × Nat × Nat)} {av : List Value} (hd : decode cc pc = .ok (.invokestatic index, 3)) (hw : xj_sw y0.cls index y cy nLy rety hsy n) (hn : av.length = n) : xj_go l z pc A y av := by
  obtain ⟨w1, w2, w3, w4, w5, w6⟩ := hw
  exact ⟨_, by rw [hn]; exact xj_inv_static B hd w1 w2 w3 w4 w5 w6, fun _ _ _ _ _ _ => trivial⟩
theorem xj_go_v (B : xj_B l y0 cc nL ret hs d z) {y : MethodName} {cy : ByteArray} {nLy n index ci : Nat} {rety : Option FieldType} {hsy : List (Nat × Nat × Nat × Nat)} {o : xj_Rf} {as : List Value} (hd : decode cc pc = .ok (.invokevirtual index, 3)) (hw : xj_vw y0.cls index ci y cy nLy rety hsy n) (hn : as.length = n) (hq : xj_is A o ci = true) : xj_go l z pc A y (xj_rv o :: as) := by
  obtain ⟨C, T, N, w0, w1, w2, w3, w4, w5, w6, w7⟩ := hw
  refine ⟨_, by rw [List.length_cons, hn]; exact xj_inv_virtual B hd w1 w2 w3 w6 w7 ⟨_, w4, _, _, _, _, rfl⟩, fun ad H locs cells slots hI => ?_⟩
  obtain ⟨a, fs, rfl, ha⟩ := xj_is_inv hq
  obtain ⟨r, h1, cell, q1, q2, q3, q4⟩ := hI.2.2.1 a _ (xj_w_at ha)
  have hr : r = (C, T, N) := Option.some.inj (h1.symm.trans w0)
  subst hr
  obtain ⟨hS, hfc, kC, hkC, hkind⟩ := B.2.2.2.2.2.2.2.2.2.1.1 ci _ w0
  exact ⟨ad a, as.map (xj_v (xf_g z) ad), cell, rfl, q1, by rw [q3]; rfl, by rw [q2]; exact hfc⟩
theorem xj_go_i (B : xj_B l y0 cc nL ret hs d z) {y : MethodName} {cy : ByteArray} {nLy n index a : Nat} {as : List Value} (hd : decode cc pc = .ok (.invokespecial index, 3)) (hw : xj_iw y0.cls index y cy nLy n) (hn : as.length = n) : xj_go l z pc A y (xj_rv (xj_o a) :: as) := by
  obtain ⟨w1, w2, w3, w4, w5, w6, w7⟩ := hw
  refine ⟨_, by rw [List.length_cons, hn]; exact xj_inv_init B hd w7 w1 w2 w3 w5 w6, fun ad H locs cells slots hI => ?_⟩
  exact ⟨ad a, as.map (xj_v (xf_g z) ad), rfl⟩
theorem xg_ci (B : xj_B l y0 cc nL ret hs d z) {y : MethodName} {cy : ByteArray} {nLy d' : Nat} {rety : Option FieldType} {hsy : List (Nat × Nat × Nat × Nat)} {av : List Value} {F : Option xj_R} {K : Int32 → xj_H → Option xj_R} {ig : Instr} (hd : decode cc pc = .ok (ig, 3)) (hgo : xj_go l z pc A y av) (hwy : xj_cw y cy nLy rety hsy ∈ xj_ws) (hwi : Cond.initialized y.cls ∈ xj_ws) (hdd : d' + 1 ≤ d) (hnLy : nLy ≤ 21) (hst8 : (st.map fun v => v.category).sum ≤ 8) (hout : (tableOf hs).all (fun q => !covers q pc) = true)
    (hM : ∀ r', F = some r' → xj_M l y cy nLy rety hsy d' av A r') (h : xj_bi F K = some (xf_r z)) (kk : ∀ v A', F = some (.inl (some (.int v)), A') → K v A' = some (xf_r z) → xj_W l z (pc + 3) ls (.int v :: st) A') : xj_W l z pc ls (av.reverse ++ st) A := by
  obtain ⟨need, hinv, hneed⟩ := hgo
  rcases xj_bi_inv h with ⟨v, A', hF, hK⟩ | ⟨x, A', hF, hr⟩
  · exact xg_core B hd hinv hneed (hM _ hF) hwy hwi hdd hnLy hst8 (fun w hw => by cases hw; exact kk v A' hF hK) (fun x hx => by cases hx)
  · exact xg_core B hd hinv hneed (hM _ hF) hwy hwi hdd hnLy hst8 (fun w hw => by cases hw) (fun w hx => by cases hx; exact xj_X.leave B hout hr)
theorem xg_cl (B : xj_B l y0 cc nL ret hs d z) {y : MethodName} {cy : ByteArray} {nLy d' : Nat} {rety : Option FieldType} {hsy : List (Nat × Nat × Nat × Nat)} {av : List Value} {F : Option xj_R} {K : Int64 → xj_H → Option xj_R} {ig : Instr} (hd : decode cc pc = .ok (ig, 3)) (hgo : xj_go l z pc A y av) (hwy : xj_cw y cy nLy rety hsy ∈ xj_ws) (hwi : Cond.initialized y.cls ∈ xj_ws) (hdd : d' + 1 ≤ d) (hnLy : nLy ≤ 21) (hst8 : (st.map fun v => v.category).sum ≤ 8) (hout : (tableOf hs).all (fun q => !covers q pc) = true)
    (hM : ∀ r', F = some r' → xj_M l y cy nLy rety hsy d' av A r') (h : xj_bl F K = some (xf_r z)) (kk : ∀ v A', F = some (.inl (some (.long v)), A') → K v A' = some (xf_r z) → xj_W l z (pc + 3) ls (.long v :: st) A') : xj_W l z pc ls (av.reverse ++ st) A := by
  obtain ⟨need, hinv, hneed⟩ := hgo
  rcases xj_bl_inv h with ⟨v, A', hF, hK⟩ | ⟨x, A', hF, hr⟩
  · exact xg_core B hd hinv hneed (hM _ hF) hwy hwi hdd hnLy hst8 (fun w hw => by cases hw; exact kk v A' hF hK) (fun x hx => by cases hx)
  · exact xg_core B hd hinv hneed (hM _ hF) hwy hwi hdd hnLy hst8 (fun w hw => by cases hw) (fun w hx => by cases hx; exact xj_X.leave B hout hr)
theorem xg_cr (B : xj_B l y0 cc nL ret hs d z) {y : MethodName} {cy : ByteArray} {nLy d' : Nat} {rety : Option FieldType} {hsy : List (Nat × Nat × Nat × Nat)} {av : List Value} {F : Option xj_R} {K : xj_Rf → xj_H → Option xj_R} {ig : Instr} (hd : decode cc pc = .ok (ig, 3)) (hgo : xj_go l z pc A y av) (hwy : xj_cw y cy nLy rety hsy ∈ xj_ws) (hwi : Cond.initialized y.cls ∈ xj_ws) (hdd : d' + 1 ≤ d) (hnLy : nLy ≤ 21) (hst8 : (st.map fun v => v.category).sum ≤ 8) (hout : (tableOf hs).all (fun q => !covers q pc) = true)
    (hM : ∀ r', F = some r' → xj_M l y cy nLy rety hsy d' av A r') (h : xj_br F K = some (xf_r z)) (kk : ∀ v A', F = some (.inl (some (xj_rv v)), A') → K v A' = some (xf_r z) → xj_W l z (pc + 3) ls (xj_rv v :: st) A') : xj_W l z pc ls (av.reverse ++ st) A := by
  obtain ⟨need, hinv, hneed⟩ := hgo
  rcases xj_br_inv h with ⟨v, A', hF, hK⟩ | ⟨x, A', hF, hr⟩
  · exact xg_core B hd hinv hneed (hM _ hF) hwy hwi hdd hnLy hst8 (fun w hw => by cases hw; exact kk v A' hF hK) (fun x hx => by cases hx)
  · exact xg_core B hd hinv hneed (hM _ hF) hwy hwi hdd hnLy hst8 (fun w hw => by cases hw) (fun w hx => by cases hx; exact xj_X.leave B hout hr)
theorem xg_cv (B : xj_B l y0 cc nL ret hs d z) {y : MethodName} {cy : ByteArray} {nLy d' : Nat} {rety : Option FieldType} {hsy : List (Nat × Nat × Nat × Nat)} {av : List Value} {F : Option xj_R} {K : xj_H → Option xj_R} {ig : Instr} (hd : decode cc pc = .ok (ig, 3)) (hgo : xj_go l z pc A y av) (hwy : xj_cw y cy nLy rety hsy ∈ xj_ws) (hwi : Cond.initialized y.cls ∈ xj_ws) (hdd : d' + 1 ≤ d) (hnLy : nLy ≤ 21) (hst8 : (st.map fun v => v.category).sum ≤ 8) (hout : (tableOf hs).all (fun q => !covers q pc) = true)
    (hM : ∀ r', F = some r' → xj_M l y cy nLy rety hsy d' av A r') (h : xj_bv F K = some (xf_r z)) (kk : ∀ A', F = some (.inl none, A') → K A' = some (xf_r z) → xj_W l z (pc + 3) ls (st) A') : xj_W l z pc ls (av.reverse ++ st) A := by
  obtain ⟨need, hinv, hneed⟩ := hgo
  rcases xj_bv_inv h with ⟨A', hF, hK⟩ | ⟨x, A', hF, hr⟩
  · exact xg_core B hd hinv hneed (hM _ hF) hwy hwi hdd hnLy hst8 (fun w hw => by cases hw; exact kk A' hF hK) (fun x hx => by cases hx)
  · exact xg_core B hd hinv hneed (hM _ hF) hwy hwi hdd hnLy hst8 (fun w hw => by cases hw) (fun w hx => by cases hx; exact xj_X.leave B hout hr)
end Xcalls2

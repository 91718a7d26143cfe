/-! The abstract words: cells by their places, references by places, results. -/
abbrev xj_C : Type := (Nat × vp_A) ⊕ (Nat × List Value)
abbrev xj_H : Type := List xj_C × Nat × Nat
abbrev xj_R : Type := (Option Value ⊕ String) × xj_H
abbrev xj_G : Type := va_G × (Nat → ClassId) × (Nat → Nat) × (Nat → Int32) × Nat
abbrev xj_Rf : Type := Option (Nat ⊕ Nat)
def xj_rv (r : xj_Rf) : Value := match r with
  | none => .null
  | some (.inl k) => .ref k
  | some (.inr i) => .retAddr i
def xj_v (g : xj_G) (ad : Nat → Nat) (v : Value) : Value := match v with
  | .ref k => .ref (ad k)
  | .retAddr i => .ref (g.2.2.1 i)
  | .int x => .int x
  | .long x => .long x
  | .float x => .float x
  | .double x => .double x
  | .null => .null
def xj_c (g : xj_G) (ad : Nat → Nat) (x : xj_C) : va_E := match x with
  | .inl (t, n, .inl f) => .inl (g.2.1 t, n, .inl f)
  | .inl (t, n, .inr (.inl f)) => .inl (g.2.1 t, n, .inr (.inl f))
  | .inl (t, n, .inr (.inr (.inl f))) => .inl (g.2.1 t, n, .inr (.inr (.inl f)))
  | .inl (t, n, .inr (.inr (.inr (.inl f)))) => .inl (g.2.1 t, n, .inr (.inr (.inr (.inl f))))
  | .inl (t, n, .inr (.inr (.inr (.inr f)))) => .inl (g.2.1 t, n, .inr (.inr (.inr (.inr (fun i => (f i).map ad)))))
  | .inr (ci, fs) => .inr (ci, fs.map (xj_v g ad))
def xj_w (g : xj_G) (ad : Nat → Nat) (A : List xj_C) : va_W := A.mapIdx (fun k x => (ad k, xj_c g ad x))
def xj_wv (n : Nat) (v : Value) : Prop := match v with
  | .ref k => k < n
  | _ => True
def xj_wst (n : Nat) : List Value → Prop
  | [] => True
  | v :: r => xj_wv n v ∧ xj_wst n r
def xj_wls (n : Nat) (ls : List (Nat × Value)) : Prop := ∀ q ∈ ls, xj_wv n q.2
def xj_wc (n : Nat) (x : xj_C) : Prop := match x with
  | .inl (_, _, .inr (.inr (.inr (.inr f)))) => ∀ i k, f i = some k → k < n
  | .inl _ => True
  | .inr (_, fs) => ∀ v ∈ fs, xj_wv n v
theorem xj_v_cat (g : xj_G) (ad : Nat → Nat) (v : Value) : (xj_v g ad v).category = v.category := by cases v <;> rfl
theorem xj_v_same {g : xj_G} {ad ad' : Nat → Nat} {n : Nat} (ha : ∀ k, k < n → ad' k = ad k) {v : Value} (h : xj_wv n v) : xj_v g ad' v = xj_v g ad v := by
  cases v with
  | ref k => simp only [xj_v]; rw [ha k h]
  | _ => rfl
theorem xj_st_same {g : xj_G} {ad ad' : Nat → Nat} {n : Nat} (ha : ∀ k, k < n → ad' k = ad k) : ∀ {st : List Value}, xj_wst n st → st.map (xj_v g ad') = st.map (xj_v g ad)
  | [], _ => rfl
  | v :: r, h => by rw [List.map_cons, List.map_cons, xj_v_same ha h.1, xj_st_same ha h.2]
theorem xj_ls_same {g : xj_G} {ad ad' : Nat → Nat} {n : Nat} (ha : ∀ k, k < n → ad' k = ad k) {ls : List (Nat × Value)} (h : xj_wls n ls) : ls.map (fun q => (q.1, xj_v g ad' q.2)) = ls.map (fun q => (q.1, xj_v g ad q.2)) :=
  List.map_congr_left fun q hq => by rw [xj_v_same ha (h q hq)]
theorem xj_c_same {g : xj_G} {ad ad' : Nat → Nat} {n : Nat} (ha : ∀ k, k < n → ad' k = ad k) {x : xj_C} (h : xj_wc n x) : xj_c g ad' x = xj_c g ad x := by
  match x, h with
  | .inl (t, m, .inl f), _ => rfl
  | .inl (t, m, .inr (.inl f)), _ => rfl
  | .inl (t, m, .inr (.inr (.inl f))), _ => rfl
  | .inl (t, m, .inr (.inr (.inr (.inl f)))), _ => rfl
  | .inl (t, m, .inr (.inr (.inr (.inr f)))), h =>
    have hf : (fun i => (f i).map ad') = fun i => (f i).map ad := by
      funext i
      cases hi : f i with
      | none => rfl
      | some k => simp only [Option.map_some]; rw [ha k (h i k hi)]
    simp only [xj_c, hf]
  | .inr (ci, fs), h =>
    have hf : fs.map (xj_v g ad') = fs.map (xj_v g ad) := List.map_congr_left fun v hv => xj_v_same ha (h v hv)
    simp only [xj_c, hf]
theorem xj_w_get (g : xj_G) (ad : Nat → Nat) (A : List xj_C) (k : Nat) : (xj_w g ad A)[k]? = (A[k]?).map (fun x => (ad k, xj_c g ad x)) := by
  simp [xj_w, List.getElem?_mapIdx]
theorem xj_w_at {g : xj_G} {ad : Nat → Nat} {A : List xj_C} {k : Nat} {x : xj_C} (h : A[k]? = some x) : (xj_w g ad A)[k]? = some (ad k, xj_c g ad x) := by
  rw [xj_w_get, h]; rfl
theorem xj_w_len (g : xj_G) (ad : Nat → Nat) (A : List xj_C) : (xj_w g ad A).length = A.length := by simp [xj_w]
theorem xj_w_set (g : xj_G) (ad : Nat → Nat) (A : List xj_C) (k : Nat) (x : xj_C) : (xj_w g ad A).set k (ad k, xj_c g ad x) = xj_w g ad (A.set k x) := by
  apply List.ext_getElem?
  intro j
  rw [xj_w_get, List.getElem?_set, List.getElem?_set, xj_w_len]
  by_cases h : k = j
  · subst h
    by_cases h2 : k < A.length <;> simp [h2]
  · simp [h, xj_w_get]
theorem xj_w_push (g : xj_G) (ad : Nat → Nat) (A : List xj_C) (x : xj_C) : xj_w g ad (A ++ [x]) = xj_w g ad A ++ [(ad A.length, xj_c g ad x)] := by
  simp [xj_w, List.mapIdx_append]
theorem xj_w_same {g : xj_G} {ad ad' : Nat → Nat} {A : List xj_C} (ha : ∀ k, k < A.length → ad' k = ad k) (h : ∀ x ∈ A, xj_wc A.length x) : xj_w g ad' A = xj_w g ad A := by
  apply List.ext_getElem?
  intro j
  rw [xj_w_get, xj_w_get]
  cases hj : A[j]? with
  | none => rfl
  | some x =>
    have hl : j < A.length := (List.getElem?_eq_some_iff.mp hj).1
    simp only [Option.map_some]
    rw [ha j hl, xj_c_same ha (h x (List.mem_of_getElem? hj))]
theorem xj_wv_mono {n n' : Nat} (h : n ≤ n') {v : Value} (hv : xj_wv n v) : xj_wv n' v := by
  cases v with
  | ref k => exact Nat.lt_of_lt_of_le hv h
  | _ => trivial
theorem xj_wst_mono {n n' : Nat} (h : n ≤ n') : ∀ {st : List Value}, xj_wst n st → xj_wst n' st
  | [], _ => trivial
  | _ :: _, hs => ⟨xj_wv_mono h hs.1, xj_wst_mono h hs.2⟩
theorem xj_wls_mono {n n' : Nat} (h : n ≤ n') {ls : List (Nat × Value)} (hl : xj_wls n ls) : xj_wls n' ls := fun q hq => xj_wv_mono h (hl q hq)
theorem xj_wc_mono {n n' : Nat} (h : n ≤ n') {x : xj_C} (hx : xj_wc n x) : xj_wc n' x := by
  match x, hx with
  | .inl (t, m, .inl f), _ => trivial
  | .inl (t, m, .inr (.inl f)), _ => trivial
  | .inl (t, m, .inr (.inr (.inl f))), _ => trivial
  | .inl (t, m, .inr (.inr (.inr (.inl f)))), _ => trivial
  | .inl (t, m, .inr (.inr (.inr (.inr f)))), hx => exact fun i k hk => Nat.lt_of_lt_of_le (hx i k hk) h
  | .inr (ci, fs), hx => exact fun v hv => xj_wv_mono h (hx v hv)
theorem xj_wst_mem {n : Nat} : ∀ {st : List Value}, (∀ v ∈ st, xj_wv n v) → xj_wst n st
  | [], _ => trivial
  | v :: r, h => ⟨h v List.mem_cons_self, xj_wst_mem fun w hw => h w (List.mem_cons_of_mem _ hw)⟩
theorem xj_wst_app {n : Nat} : ∀ {a b : List Value}, xj_wst n (a ++ b) → xj_wst n a ∧ xj_wst n b
  | [], _, h => ⟨trivial, h⟩
  | _ :: _, _, h => ⟨⟨h.1, (xj_wst_app h.2).1⟩, (xj_wst_app h.2).2⟩
theorem xj_wst_of {n : Nat} : ∀ {st : List Value}, xj_wst n st → ∀ v ∈ st, xj_wv n v
  | _ :: _, h, v, hv => by
    rcases List.mem_cons.mp hv with rfl | hv
    · exact h.1
    · exact xj_wst_of h.2 v hv
/-! Reading and writing the cells. -/
def xj_o (a : Nat) : xj_Rf := some (.inl a)
def xj_gv (A : xj_H) (o : xj_Rf) (ci k : Nat) : Option Value := match o with
  | some (.inl a) => match A.1[a]? with
    | some (.inr q) => if q.1 = ci then q.2[k]? else none
    | _ => none
  | _ => none
def xj_gi (A : xj_H) (o : xj_Rf) (ci k : Nat) : Option Int32 := match xj_gv A o ci k with
  | some (.int x) => some x
  | _ => none
def xj_gl (A : xj_H) (o : xj_Rf) (ci k : Nat) : Option Int64 := match xj_gv A o ci k with
  | some (.long x) => some x
  | _ => none
def xj_vr (v : Value) : Option xj_Rf := match v with
  | .ref k => some (some (.inl k))
  | .retAddr i => some (some (.inr i))
  | .null => some none
  | _ => none
def xj_gr (A : xj_H) (o : xj_Rf) (ci k : Nat) : Option xj_Rf := (xj_gv A o ci k).bind xj_vr
def xj_pv (A : xj_H) (o : xj_Rf) (ci k : Nat) (v : Value) : Option xj_H := match o with
  | some (.inl a) => match A.1[a]? with
    | some (.inr q) => if q.1 = ci ∧ k < q.2.length then some (A.1.set a (.inr (ci, q.2.set k v)), A.2) else none
    | _ => none
  | _ => none
def xj_pz (A : xj_H) (o : xj_Rf) (ci k : Nat) (v : Int32) : Option xj_H := if v = 0 ∨ v = 1 then xj_pv A o ci k (.int v) else none
def xj_ar (A : xj_H) (o : xj_Rf) (t : Nat) : Option (Nat × (Nat → Int32)) := match o with
  | some (.inl a) => match A.1[a]? with
    | some (.inl (t', n, .inl f)) => if t' = t then some (n, f) else none
    | _ => none
  | _ => none
def xj_ai (A : xj_H) (o : xj_Rf) (t : Nat) (i : Int32) : Option Int32 := (xj_ar A o t).bind fun q => if i < 0 ∨ q.1 ≤ i.toNatClampNeg then none else some (q.2 i.toNatClampNeg)
def xj_as (A : xj_H) (o : xj_Rf) (t : Nat) (i x : Int32) : Option xj_H := match o with
  | some (.inl a) => match A.1[a]? with
    | some (.inl (t', n, .inl f)) => if t' = t ∧ ¬ (i < 0 ∨ n ≤ i.toNatClampNeg) then some (A.1.set a (.inl (t, n, .inl (upd f i.toNatClampNeg x))), A.2) else none
    | _ => none
  | _ => none
def xj_lai (A : xj_H) (o : xj_Rf) (i : Int32) : Option Int64 := match o with
  | some (.inl a) => match A.1[a]? with
    | some (.inl (t', n, .inr (.inl f))) => if t' = 3 ∧ ¬ (i < 0 ∨ n ≤ i.toNatClampNeg) then some (f i.toNatClampNeg) else none
    | _ => none
  | _ => none
def xj_las (A : xj_H) (o : xj_Rf) (i : Int32) (x : Int64) : Option xj_H := match o with
  | some (.inl a) => match A.1[a]? with
    | some (.inl (t', n, .inr (.inl f))) => if t' = 3 ∧ ¬ (i < 0 ∨ n ≤ i.toNatClampNeg) then some (A.1.set a (.inl (3, n, .inr (.inl (vp_updL f i.toNatClampNeg x)))), A.2) else none
    | _ => none
  | _ => none
def xj_ral (A : xj_H) (o : xj_Rf) (i : Int32) : Option xj_Rf := match o with
  | some (.inl a) => match A.1[a]? with
    | some (.inl (t', n, .inr (.inr (.inr (.inr f))))) => if t' = 4 ∧ ¬ (i < 0 ∨ n ≤ i.toNatClampNeg) then some ((f i.toNatClampNeg).map .inl) else none
    | _ => none
  | _ => none
def xj_ras (A : xj_H) (o : xj_Rf) (i : Int32) (ci : Nat) (v : xj_Rf) : Option xj_H := match o, v with
  | some (.inl a), some (.inl b) => match A.1[a]?, A.1[b]? with
    | some (.inl (t', n, .inr (.inr (.inr (.inr f))))), some (.inr q) => if t' = 4 ∧ q.1 = ci ∧ ¬ (i < 0 ∨ n ≤ i.toNatClampNeg) then some (A.1.set a (.inl (4, n, .inr (.inr (.inr (.inr (va_up f i.toNatClampNeg (some b))))))), A.2) else none
    | _, _ => none
  | _, _ => none
def xj_len (A : xj_H) (o : xj_Rf) (t : Nat) : Option Int32 := match o with
  | some (.inl a) => match A.1[a]? with
    | some (.inl (t', n, _)) => if t' = t then some (Int32.ofNat n) else none
    | _ => none
  | _ => none
def xj_mk (A : xj_H) (x : xj_C) (n : Nat) : Option xj_H := if 1 ≤ A.2.1 ∧ n ≤ A.2.2 then some (A.1 ++ [x], A.2.1 - 1, A.2.2 - n) else none
def xj_th (A : xj_H) (x : String) : Option xj_R := if 1 ≤ A.2.1 ∧ 6 ≤ A.2.2 then some (.inr x, (A.1, A.2.1 - 1, A.2.2 - 6)) else none
def xj_rz (v : Int32) (A : xj_H) : Option xj_R := if v = 0 ∨ v = 1 then some (.inl (some (.int v)), A) else none
/-! What a call's result goes on with. -/
def xj_bi (F : Option xj_R) (K : Int32 → xj_H → Option xj_R) : Option xj_R := match F with
  | some (.inl (some (.int v)), A) => K v A
  | some (.inr x, A) => some (.inr x, A)
  | _ => none
def xj_bl (F : Option xj_R) (K : Int64 → xj_H → Option xj_R) : Option xj_R := match F with
  | some (.inl (some (.long v)), A) => K v A
  | some (.inr x, A) => some (.inr x, A)
  | _ => none
def xj_br (F : Option xj_R) (K : xj_Rf → xj_H → Option xj_R) : Option xj_R := match F with
  | some (.inl (some v), A) => (xj_vr v).bind fun r => K r A
  | some (.inr x, A) => some (.inr x, A)
  | _ => none
def xj_bv (F : Option xj_R) (K : xj_H → Option xj_R) : Option xj_R := match F with
  | some (.inl none, A) => K A
  | some (.inr x, A) => some (.inr x, A)
  | _ => none
def xj_lk : List (Nat × Value) → Nat → Option Value
  | [], _ => none
  | q :: r, i => if q.1 = i then some q.2 else xj_lk r i
theorem xj_lk_mem : ∀ {ls : List (Nat × Value)} {i : Nat} {v : Value}, xj_lk ls i = some v → (i, v) ∈ ls
  | q :: r, i, v, h => by
    unfold xj_lk at h
    by_cases hq : q.1 = i
    · rw [if_pos hq] at h
      cases h
      subst hq
      exact List.mem_cons_self
    · rw [if_neg hq] at h
      exact List.mem_cons_of_mem _ (xj_lk_mem h)

/-! Objects and arrays of the heap, and what stays as it was. -/
def xk_u (S : Nat → Prop) (A B : xj_H) : Prop := B.2 = A.2 ∧ B.1.length = A.1.length ∧ ∀ i, ¬ S i → B.1[i]? = A.1[i]?
theorem xk_r (S : Nat → Prop) (A : xj_H) : xk_u S A A := ⟨rfl, rfl, fun _ _ => rfl⟩
theorem xk_t {S : Nat → Prop} {A B C : xj_H} (h : xk_u S A B) (k : xk_u S B C) : xk_u S A C := ⟨k.1.trans h.1, k.2.1.trans h.2.1, fun i hi => (k.2.2 i hi).trans (h.2.2 i hi)⟩
theorem xk_w {S T : Nat → Prop} {A B : xj_H} (h : xk_u S A B) (hs : ∀ i, S i → T i) : xk_u T A B := ⟨h.1, h.2.1, fun i hi => h.2.2 i (fun hc => hi (hs i hc))⟩
theorem xk_c {S : Nat → Prop} {A B : xj_H} {i : Nat} {x : xj_C} (h : A.1[i]? = some x) (u : xk_u S A B) (hi : ¬ S i) : B.1[i]? = some x := (u.2.2 i hi).trans h
/-- the cell at o is an object of class c with n fields, the k-th of them p k -/
def xk_o (A : xj_H) (o c n : Nat) (p : Nat → Value) : Prop := ∃ fs : List Value, A.1[o]? = some (.inr (c, fs)) ∧ fs.length = n ∧ ∀ k, k < n → fs[k]? = some (p k)
/-- the cell at a is an array of n numbers, the i-th of them f i -/
def xk_a (A : xj_H) (t a n : Nat) (f : Nat → Int) : Prop := ∃ F : Nat → Int32, A.1[a]? = some (.inl (t, n, .inl F)) ∧ ∀ i, i < n → F i = xI (f i)
def xk_p {α : Type} (f : Nat → α) (j : Nat) (x : α) : Nat → α := fun k => if k = j then x else f k
theorem xk_p_e {α : Type} (f : Nat → α) (j : Nat) (x : α) : xk_p f j x j = x := by simp [xk_p]
theorem xk_p_n {α : Type} (f : Nat → α) {j k : Nat} (x : α) (h : k ≠ j) : xk_p f j x k = f k := by simp [xk_p, h]
theorem xk_ou {S : Nat → Prop} {A B : xj_H} {o c n : Nat} {p : Nat → Value} (h : xk_o A o c n p) (u : xk_u S A B) (hi : ¬ S o) : xk_o B o c n p := by
  obtain ⟨fs, h1, h2⟩ := h
  exact ⟨fs, xk_c h1 u hi, h2⟩
theorem xk_au {S : Nat → Prop} {A B : xj_H} {t a n : Nat} {f : Nat → Int} (h : xk_a A t a n f) (u : xk_u S A B) (hi : ¬ S a) : xk_a B t a n f := by
  obtain ⟨F, h1, h2⟩ := h
  exact ⟨F, xk_c h1 u hi, h2⟩
theorem xk_ac {A : xj_H} {t a n : Nat} {f g : Nat → Int} (h : xk_a A t a n f) (hg : ∀ i, i < n → f i = g i) : xk_a A t a n g := by
  obtain ⟨F, h1, h2⟩ := h
  exact ⟨F, h1, fun i hi => by rw [h2 i hi, hg i hi]⟩
theorem xk_gi {A : xj_H} {o c n k : Nat} {p : Nat → Value} {x : Int32} (h : xk_o A o c n p) (hp : p k = .int x) (hk : k < n) : xj_gi A (xj_o o) c k = some x := by
  obtain ⟨fs, h1, h2, h3⟩ := h
  exact xe_gi h1 (by rw [h3 k hk, hp])
theorem xk_gr {A : xj_H} {o c n k b : Nat} {p : Nat → Value} (h : xk_o A o c n p) (hp : p k = .ref b) (hk : k < n) : xj_gr A (xj_o o) c k = some (xj_o b) := by
  obtain ⟨fs, h1, h2, h3⟩ := h
  exact xe_gr h1 (by rw [h3 k hk, hp])
theorem xk_rq {A : xj_H} {o c n : Nat} {p : Nat → Value} {F : Option xj_R} (h : xk_o A o c n p) : xj_rq A (xj_o o) c F = F := by
  obtain ⟨fs, h1, h2, h3⟩ := h
  exact xe_rq h1
theorem xk_set {A : xj_H} {a : Nat} {x y : xj_C} (h : A.1[a]? = some y) : xk_u (fun i => i = a) A (A.1.set a x, A.2) := ⟨rfl, by simp, fun i hi => xe_set_ne (fun e => hi e.symm)⟩
theorem xk_pv {A : xj_H} {o c n k : Nat} {p : Nat → Value} (v : Value) (h : xk_o A o c n p) (hk : k < n) : ∃ B, xj_pv A (xj_o o) c k v = some B ∧ xk_o B o c n (xk_p p k v) ∧ xk_u (fun i => i = o) A B := by
  obtain ⟨fs, h1, h2, h3⟩ := h
  refine ⟨_, xe_pv h1 (by omega), ⟨fs.set k v, xe_set_eq h1, by simp [h2], fun j hj => ?_⟩, xk_set h1⟩
  by_cases e : j = k
  · subst e
    rw [xk_p_e]
    simp [h2, hk]
  · rw [xk_p_n _ _ e, List.getElem?_set_ne (fun x => e x.symm)]
    exact h3 j hj
theorem xk_pw {A : xj_H} {o c k : Nat} {fs : List Value} (v : Value) (h : A.1[o]? = some (.inr (c, fs))) (hk : k < fs.length) : ∃ B, xj_pv A (xj_o o) c k v = some B ∧ B.1[o]? = some (.inr (c, fs.set k v)) ∧ xk_u (fun i => i = o) A B :=
  ⟨_, xe_pv h hk, xe_set_eq h, xk_set h⟩
theorem xk_pz {A : xj_H} {o c k : Nat} {fs : List Value} {v : Int32} (hv : v = 0 ∨ v = 1) (h : A.1[o]? = some (.inr (c, fs))) (hk : k < fs.length) : ∃ B, xj_pz A (xj_o o) c k v = some B ∧ B.1[o]? = some (.inr (c, fs.set k (.int v))) ∧ xk_u (fun i => i = o) A B :=
  ⟨_, xe_pz hv h hk, xe_set_eq h, xk_set h⟩
theorem xk_ai {A : xj_H} {t a n : Nat} {f : Nat → Int} {i : Int} (h : xk_a A t a n f) (h0 : 0 ≤ i) (h1 : i < n) (hn : n < 2147483648) : xj_ai A (xj_o a) t (xI i) = some (xI (f i.toNat)) := by
  obtain ⟨F, f1, f2⟩ := h
  rw [xe_ai f1 h0 h1 hn, f2 _ (by omega)]
theorem xk_as {A : xj_H} {t a n : Nat} {f : Nat → Int} {i : Int} (x : Int) (h : xk_a A t a n f) (h0 : 0 ≤ i) (h1 : i < n) (hn : n < 2147483648) : ∃ B, xj_as A (xj_o a) t (xI i) (xI x) = some B ∧ xk_a B t a n (xk_p f i.toNat x) ∧ xk_u (fun i => i = a) A B := by
  obtain ⟨F, f1, f2⟩ := h
  refine ⟨_, xe_as f1 h0 h1 hn, ⟨_, xe_set_eq f1, fun j hj => ?_⟩, xk_set f1⟩
  by_cases e : j = i.toNat
  · subst e
    rw [xk_p_e]
    simp [upd]
  · rw [xk_p_n _ _ e]
    simp only [upd, e, if_false]
    exact f2 j hj
theorem xk_len {A : xj_H} {t a n : Nat} {f : Nat → Int} (h : xk_a A t a n f) : xj_len A (xj_o a) t = some (xI (n : Int)) := by
  obtain ⟨F, f1, f2⟩ := h
  rw [← xI_lit]
  simp [xj_len, xj_o, f1]
theorem xk_b0 {α : Type} {P Q : α} : (if (0 : Int32) = 0 then P else Q) = P := if_pos rfl
theorem xk_b1 {α : Type} {P Q : α} : (if (1 : Int32) = 0 then P else Q) = Q := if_neg (by decide)
theorem xk_n0 {α : Type} {P Q : α} : (if ¬ (0 : Int32) = 0 then P else Q) = Q := if_neg (by decide)
theorem xk_n1 {α : Type} {P Q : α} : (if ¬ (1 : Int32) = 0 then P else Q) = P := if_pos (by decide)

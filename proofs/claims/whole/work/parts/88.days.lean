/-! The days of a rule. -/
/-- D: the first c of those from s to x that have P, in order -/
def xf_is (P : Int → Prop) (s x : Int) (c : Nat) (D : List Int) : Prop := D.Pairwise (· < ·) ∧ D.length ≤ c ∧ (∀ t ∈ D, s ≤ t ∧ t ≤ x ∧ P t) ∧ ∀ t, s ≤ t → t ≤ x → P t → t ∈ D ∨ (D.length = c ∧ ∀ y ∈ D, y < t)
theorem xf_0 {P : Int → Prop} {s x : Int} {c : Nat} (h : x < s) : xf_is P s x c [] := ⟨List.Pairwise.nil, by simp, fun t ht => by simp at ht, fun t h1 h2 _ => by omega⟩
theorem xf_skip {P : Int → Prop} {s x y : Int} {c : Nat} {D : List Int} (h : xf_is P s x c D) (hxy : x ≤ y) (hn : ∀ t, s ≤ t → x < t → t ≤ y → ¬ P t) : xf_is P s y c D := by
  obtain ⟨h1, h2, h3, h4⟩ := h
  refine ⟨h1, h2, fun t ht => ⟨(h3 t ht).1, by have := (h3 t ht).2.1; omega, (h3 t ht).2.2⟩, fun t t1 t2 t3 => ?_⟩
  by_cases hx : t ≤ x
  · exact h4 t t1 hx t3
  · exact absurd t3 (hn t t1 (by omega) t2)
theorem xf_full {P : Int → Prop} {s x y : Int} {c : Nat} {D : List Int} (h : xf_is P s x c D) (hxy : x ≤ y) (hc : c ≤ D.length) : xf_is P s y c D := by
  obtain ⟨h1, h2, h3, h4⟩ := h
  refine ⟨h1, h2, fun t ht => ⟨(h3 t ht).1, by have := (h3 t ht).2.1; omega, (h3 t ht).2.2⟩, fun t t1 t2 t3 => ?_⟩
  by_cases hx : t ≤ x
  · exact h4 t t1 hx t3
  · exact Or.inr ⟨by omega, fun z hz => by have := (h3 z hz).2.1; omega⟩
theorem xf_add {P : Int → Prop} {s x y : Int} {c : Nat} {D : List Int} (h : xf_is P s x c D) (hxy : x < y) (hsy : s ≤ y) (hP : P y) (hn : ∀ t, s ≤ t → x < t → t < y → ¬ P t) (hc : D.length < c) : xf_is P s y c (D ++ [y]) := by
  obtain ⟨h1, h2, h3, h4⟩ := h
  refine ⟨?_, by simp; omega, fun t ht => ?_, fun t t1 t2 t3 => ?_⟩
  · refine List.pairwise_append.mpr ⟨h1, by simp, fun a ha b hb => ?_⟩
    rw [List.mem_singleton] at hb
    have := (h3 a ha).2.1
    omega
  · rw [List.mem_append, List.mem_singleton] at ht
    rcases ht with ht | rfl
    · have := h3 t ht
      exact ⟨this.1, by omega, this.2.2⟩
    · exact ⟨hsy, by omega, hP⟩
  · left
    rw [List.mem_append, List.mem_singleton]
    by_cases hx : t ≤ x
    · rcases h4 t t1 hx t3 with h | ⟨h, _⟩
      · exact Or.inl h
      · omega
    · by_cases ht : t = y
      · exact Or.inr ht
      · exact absurd t3 (hn t t1 (by omega) (by omega))
theorem xf_tl {P : Int → Prop} {s x a : Int} {c : Nat} {D : List Int} (h : xf_is P s x c (a :: D)) : xf_is P (a + 1) x (c - 1) D := by
  obtain ⟨h1, h2, h3, h4⟩ := h
  rw [List.pairwise_cons] at h1
  simp at h2
  have ha := h3 a List.mem_cons_self
  refine ⟨h1.2, by omega, fun t ht => ?_, fun t t1 t2 t3 => ?_⟩
  · have := h3 t (List.mem_cons_of_mem _ ht)
    have := h1.1 t ht
    exact ⟨by omega, by omega, (h3 t (List.mem_cons_of_mem _ ht)).2.2⟩
  · rcases h4 t (by omega) t2 t3 with h | ⟨h, h'⟩
    · rcases List.mem_cons.mp h with h | h
      · omega
      · exact Or.inl h
    · simp at h
      exact Or.inr ⟨by omega, fun y hy => h' y (List.mem_cons_of_mem _ hy)⟩
theorem xf_hd {P : Int → Prop} {s x a b : Int} {c : Nat} {D E : List Int} (h : xf_is P s x c (a :: D)) (g : xf_is P s x c (b :: E)) : b ≤ a := by
  obtain ⟨h1, h2, h3, h4⟩ := h
  obtain ⟨g1, g2, g3, g4⟩ := g
  rw [List.pairwise_cons] at h1 g1
  have ha := h3 a List.mem_cons_self
  have hb := g3 b List.mem_cons_self
  rcases g4 a ha.1 ha.2.1 ha.2.2 with h | ⟨_, h⟩
  · rcases List.mem_cons.mp h with h | h
    · omega
    · have := g1.1 a h; omega
  · have := h b List.mem_cons_self; omega
theorem xf_u {P : Int → Prop} {x : Int} : ∀ {D E : List Int} {s : Int} {c : Nat}, xf_is P s x c D → xf_is P s x c E → D = E
  | [], [], _, _, _, _ => rfl
  | [], b :: E, s, c, h, g => by
    have hb := g.2.2.1 b List.mem_cons_self
    have hl := g.2.1
    simp at hl
    rcases h.2.2.2 b hb.1 hb.2.1 hb.2.2 with h | ⟨h, _⟩
    · simp at h
    · simp at h; omega
  | a :: D, [], s, c, h, g => by
    have hb := h.2.2.1 a List.mem_cons_self
    have hl := h.2.1
    simp at hl
    rcases g.2.2.2 a hb.1 hb.2.1 hb.2.2 with h | ⟨h, _⟩
    · simp at h
    · simp at h; omega
  | a :: D, b :: E, s, c, h, g => by
    have e : a = b := by
      have h1 := xf_hd h g
      have h2 := xf_hd g h
      omega
    subst e
    rw [xf_u (xf_tl h) (xf_tl g)]
theorem xf_cc {P Q : Int → Prop} {s x : Int} {c : Nat} {D : List Int} (h : xf_is P s x c D) (e : ∀ t, s ≤ t → t ≤ x → (P t ↔ Q t)) : xf_is Q s x c D := by
  obtain ⟨h1, h2, h3, h4⟩ := h
  refine ⟨h1, h2, fun t ht => ?_, fun t t1 t2 t3 => h4 t t1 t2 ((e t t1 t2).mpr t3)⟩
  have := h3 t ht
  exact ⟨this.1, this.2.1, (e t this.1 this.2.1).mp this.2.2⟩
/-! Which days a rule means. -/
def xf_ml (m : Int) : Int := xd_ms (m + 1) - xd_ms m
def xf_M (mo : List Int) (m : Int) : Prop := mo = [] ∨ (m % 12 + 1) ∈ mo
def xf_N (nu : List Int) (n l : Int) : Prop := nu = [] ∨ n ∈ nu ∨ -(l - n + 1) ∈ nu
def xf_W (wd : List (Int × Int)) (w n l : Int) : Prop := wd = [] ∨ ∃ v ∈ wd, v.1 = w ∧ (v.2 = 0 ∨ v.2 = (n - 1) / 7 + 1 ∨ v.2 = -((l - n) / 7 + 1))
def xf_B (d : xr_D) (t m : Int) : Prop := xf_N d.2.2.2.2.2.1 (t - xd_ms m + 1) (xf_ml m) ∧ xf_W d.2.2.2.2.2.2 ((t + 5) % 7) (t - xd_ms m + 1) (xf_ml m)
def xf_v (d : xr_D) : Int := if d.2.1 = 0 then 1 else d.2.1
/-- the days as months and years say them -/
def xf_D (d : xr_D) (s m0 t m : Int) : Prop := (d.2.2.2.2.2.1 = [] ∧ d.2.2.2.2.2.2 = [] ∧ t - xd_ms m = s - xd_ms m0) ∨ (¬ (d.2.2.2.2.2.1 = [] ∧ d.2.2.2.2.2.2 = []) ∧ xf_B d t m)
def xf_I (d : xr_D) (s m0 t m : Int) : Prop := (d.1 = some 0 ∧ (t - s) % xf_v d = 0) ∨ (d.1 = some 1 ∧ ((t - (t + 5) % 7 - s + (s + 5) % 7) / 7) % xf_v d = 0) ∨ (d.1 = some 2 ∧ (m - m0) % xf_v d = 0) ∨ (d.1 = some 3 ∧ (m / 12 - m0 / 12) % xf_v d = 0)
def xf_Y (d : xr_D) (s m0 t m : Int) : Prop := xf_M d.2.2.2.2.1 m ∧ ((d.1 = some 0 ∧ xf_B d t m) ∨ (d.1 = some 1 ∧ ((d.2.2.2.2.2.2 = [] ∧ (t + 5) % 7 = (s + 5) % 7) ∨ (d.2.2.2.2.2.2 ≠ [] ∧ xf_W d.2.2.2.2.2.2 ((t + 5) % 7) (t - xd_ms m + 1) (xf_ml m)))) ∨ (d.1 = some 2 ∧ xf_D d s m0 t m) ∨ (d.1 = some 3 ∧ (d.2.2.2.2.1 = [] → m % 12 = m0 % 12) ∧ xf_D d s m0 t m))
def xf_u0 (d : xr_D) : Int := d.2.2.2.1.getD 36524
def xf_P (d : xr_D) (s m0 t : Int) : Prop := t ≤ xf_u0 d ∧ ∃ m, xd_mo t m ∧ xf_I d s m0 t m ∧ xf_Y d s m0 t m
theorem xf_Pm {d : xr_D} {s m0 t m : Int} (h : xd_mo t m) : xf_P d s m0 t ↔ t ≤ xf_u0 d ∧ xf_I d s m0 t m ∧ xf_Y d s m0 t m := by
  constructor
  · rintro ⟨h1, n, h2, h3, h4⟩
    have := xd_mo_u h h2
    subst this
    exact ⟨h1, h3, h4⟩
  · rintro ⟨h1, h2, h3⟩
    exact ⟨h1, m, h, h2, h3⟩
def xf_c0 (d : xr_D) : Int := if d.2.2.1 = 0 then 200 else d.2.2.1

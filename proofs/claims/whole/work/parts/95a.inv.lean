/-! What holds before each call: the class's cells (0 to 33), the reference's (34 to 49), the answer's (50). -/
def xi_g (A B : xj_H) (lo hi : Nat) : Prop := ∀ i, lo ≤ i → i ≤ hi → B.1[i]? = A.1[i]?
theorem xi_gr (A : xj_H) (lo hi : Nat) : xi_g A A lo hi := fun _ _ _ => rfl
theorem xi_gt {A B C : xj_H} {lo hi : Nat} (h : xi_g A B lo hi) (k : xi_g B C lo hi) : xi_g A C lo hi := fun i h1 h2 => (k i h1 h2).trans (h i h1 h2)
theorem xi_gu {S : Nat → Prop} {A B : xj_H} {lo hi : Nat} (u : xk_u S A B) (h : ∀ i, lo ≤ i → i ≤ hi → ¬ S i) : xi_g A B lo hi := fun i h1 h2 => u.2.2 i (h i h1 h2)
theorem xi_gs {A B : xj_H} {lo hi lo' hi' : Nat} (h : xi_g A B lo hi) (h1 : lo ≤ lo') (h2 : hi' ≤ hi) : xi_g A B lo' hi' := fun i a b => h i (by omega) (by omega)
/-- room used, at most 4 cells and 40 slots a turn -/
def xi_r (A B : xj_H) : Prop := A.2.1 ≤ B.2.1 + 4 ∧ A.2.2 ≤ B.2.2 + 40
def xi_r0 (A B : xj_H) : Prop := B.2 = A.2
theorem xi_oc {A B : xj_H} {o c n : Nat} {p : Nat → Value} (h : xk_o A o c n p) (e : B.1[o]? = A.1[o]?) : xk_o B o c n p := by
  obtain ⟨fs, h1, h2⟩ := h
  exact ⟨fs, e.trans h1, h2⟩
theorem xi_ac {A B : xj_H} {t a n : Nat} {f : Nat → Int} (h : xk_a A t a n f) (e : B.1[a]? = A.1[a]?) : xk_a B t a n f := by
  obtain ⟨F, h1, h2⟩ := h
  exact ⟨F, e.trans h1, h2⟩
/-- an event of the class: the days left, how many are left out, and the starts in order -/
def xi_ev (A : xj_H) (s m : Int) (f g : Nat → Int) (e : Nat) (mi le : Int) (C : List Int) (x : Int) : Prop := ∃ d st, xu_E A (6 + 3 * e) C.length x mi le d st ∧ xu_h d C ∧ xu_S (fun j => xz_mo s m f g (1440 * d j + mi)) C.length st
def xi_fr (A : xj_H) (e : Nat) : Prop := ∃ n x mi le d st, xu_E A (6 + 3 * e) n x mi le d st
theorem xi_Ec {A B : xj_H} {o : Nat} {n x mi le : Int} {d st : Nat → Int} (h : xu_E A o n x mi le d st) (h0 : B.1[o]? = A.1[o]?) (h1 : B.1[o + 1]? = A.1[o + 1]?) (h2 : B.1[o + 2]? = A.1[o + 2]?) : xu_E B o n x mi le d st :=
  ⟨h0.trans h.1, xi_ac h.2.1 h1, xi_ac h.2.2 h2⟩
theorem xi_evc {A B : xj_H} {s m : Int} {f g : Nat → Int} {e : Nat} {mi le : Int} {C : List Int} {x : Int} (h : xi_ev A s m f g e mi le C x) (u : ∀ i, 6 + 3 * e ≤ i → i ≤ 8 + 3 * e → B.1[i]? = A.1[i]?) : xi_ev B s m f g e mi le C x := by
  obtain ⟨d, st, h1, h2⟩ := h
  exact ⟨d, st, xi_Ec h1 (u _ (by omega) (by omega)) (u _ (by omega) (by omega)) (u _ (by omega) (by omega)), h2⟩
theorem xi_frc {A B : xj_H} {e : Nat} (h : xi_fr A e) (u : ∀ i, 6 + 3 * e ≤ i → i ≤ 8 + 3 * e → B.1[i]? = A.1[i]?) : xi_fr B e := by
  obtain ⟨n, x, mi, le, d, st, h1⟩ := h
  exact ⟨n, x, mi, le, d, st, xi_Ec h1 (u _ (by omega) (by omega)) (u _ (by omega) (by omega)) (u _ (by omega) (by omega))⟩
theorem xi_evfr {A : xj_H} {s m : Int} {f g : Nat → Int} {e : Nat} {mi le : Int} {C : List Int} {x : Int} (h : xi_ev A s m f g e mi le C x) : xi_fr A e := by
  obtain ⟨d, st, h1, _⟩ := h
  exact ⟨_, _, _, _, _, _, h1⟩
def xi_Ce (A : xj_H) (s m : Int) (f g : Nat → Int) (ne : Nat) (mi le : Nat → Int) (D X : Nat → List Int) : Prop := xb_V A ∧ ∀ e, e < 8 → xi_fr A e ∧ (e < ne → xi_ev A s m f g e (mi e) (le e) (xp_C (D e) (X e)) (X e).length)
def xi_Cs (A : xj_H) (c : Nat) (b e : Nat → Int) : Prop := (∃ h, xk_a A 0 30 8 h) ∧ ∃ fr to, xb_S A c fr to b e
/-- the class -/
def xi_C (A : xj_H) (n : Nat) (T : Nat → Int) (s m : Int) (f g : Nat → Int) (ne : Nat) (mi le : Nat → Int) (D X : Nat → List Int) (c : Nat) (b e : Nat → Int) : Prop := xb_K A n ne ∧ xk_a A 1 1 60 T ∧ xz_C A 2 3 4 s m f g ∧ xi_Ce A s m f g ne mi le D X ∧ xi_Cs A c b e
/-- the reference -/
def xi_M (A : xj_H) (p : Nat → Value) (n : Nat) (T : Nat → Int) (s m : Int) (f g : Nat → Int) (ne : Nat) (mi le : Nat → Int) (D X : Nat → List Int) (c : Nat) (b e : Nat → Int) : Prop := xk_o A 34 7 36 p ∧ xm_R p ∧ p 2 = .int (xI n) ∧ p 3 = .int (xI s) ∧ p 4 = .int (xI m) ∧ p 7 = .int (xI ne) ∧ p 33 = .int (xI c) ∧ xk_a A 0 35 60 T ∧ xk_a A 0 36 100 f ∧ xk_a A 0 37 100 g ∧ xm_T A mi le D X ∧ ((∃ f, xk_a A 2 44 13 f) ∧ (∃ f, xk_a A 0 45 8 f) ∧ (∃ f, xk_a A 0 46 7 f) ∧ ∃ f, xk_a A 0 47 7 f) ∧ ∃ b' e', xk_a A 0 48 1600 b' ∧ xk_a A 0 49 1600 e' ∧ ∀ i, i < c → b' i = b i ∧ e' i = e i
def xi_P (n : Nat) (T : Nat → Int) (s m : Int) (f g : Nat → Int) (ne : Nat) (mi le : Nat → Int) (D X : Nat → List Int) (c : Nat) (b e : Nat → Int) : Prop := n ≤ 60 ∧ (∀ i, 0 ≤ T i ∧ T i ≤ 65535) ∧ xz_F s m f g ∧ ne ≤ 8 ∧ (∀ e, e < 8 → xp_E (D e) (X e)) ∧ (∀ e, e < ne → 0 ≤ mi e ∧ mi e ≤ 1439) ∧ (∀ e, e < ne → 1 ≤ le e ∧ le e ≤ 2880) ∧ (∀ e, ne ≤ e → D e = [] ∧ X e = []) ∧ c ≤ 1600
theorem xi_Cc {A B : xj_H} {n : Nat} {T : Nat → Int} {s m : Int} {f g : Nat → Int} {ne : Nat} {mi le : Nat → Int} {D X : Nat → List Int} {c : Nat} {b e : Nat → Int} (h : xi_C A n T s m f g ne mi le D X c b e) (u : xi_g A B 0 33) : xi_C B n T s m f g ne mi le D X c b e := by
  obtain ⟨h1, h2, ⟨z1, z2, z3⟩, ⟨⟨ev, v1, v2⟩, h5⟩, ⟨hh, k1⟩, fr, to, s1, s2, s3⟩ := h
  refine ⟨(u 0 (by decide) (by decide)).trans h1, xi_ac h2 (u 1 (by decide) (by decide)), ⟨(u 2 (by decide) (by decide)).trans z1, xi_ac z2 (u 3 (by decide) (by decide)), xi_ac z3 (u 4 (by decide) (by decide))⟩, ⟨⟨ev, (u 5 (by decide) (by decide)).trans v1, v2⟩, fun e he => ⟨xi_frc (h5 e he).1 fun i i1 i2 => u i (by omega) (by omega), fun hn => xi_evc ((h5 e he).2 hn) fun i i1 i2 => u i (by omega) (by omega)⟩⟩, ⟨hh, xi_ac k1 (u 30 (by decide) (by decide))⟩, fr, to, (u 31 (by decide) (by decide)).trans s1, xi_ac s2 (u 32 (by decide) (by decide)), xi_ac s3 (u 33 (by decide) (by decide))⟩
theorem xi_Tc {A B : xj_H} {mi le : Nat → Int} {D X : Nat → List Int} (h : xm_T A mi le D X) (u : ∀ i, 38 ≤ i → i ≤ 43 → B.1[i]? = A.1[i]?) : xm_T B mi le D X := by
  obtain ⟨h1, h2, h3, h4, ⟨f, f1, f2⟩, ⟨g, g1, g2⟩⟩ := h
  exact ⟨xi_ac h1 (u _ (by decide) (by decide)), xi_ac h2 (u _ (by decide) (by decide)), xi_ac h3 (u _ (by decide) (by decide)), xi_ac h4 (u _ (by decide) (by decide)), ⟨f, xi_ac f1 (u _ (by decide) (by decide)), f2⟩, ⟨g, xi_ac g1 (u _ (by decide) (by decide)), g2⟩⟩
theorem xi_Mc {A B : xj_H} {p : Nat → Value} {n : Nat} {T : Nat → Int} {s m : Int} {f g : Nat → Int} {ne : Nat} {mi le : Nat → Int} {D X : Nat → List Int} {c : Nat} {b e : Nat → Int} (h : xi_M A p n T s m f g ne mi le D X c b e) (u : xi_g A B 34 49) : xi_M B p n T s m f g ne mi le D X c b e := by
  obtain ⟨h1, h2, p2, p3, p4, p7, p33, h35, h36, h37, hT, ⟨⟨f4, g4⟩, ⟨f5, g5⟩, ⟨f6, g6⟩, ⟨f7, g7⟩⟩, b', e', h48, h49, h50⟩ := h
  exact ⟨xi_oc h1 (u _ (by decide) (by decide)), h2, p2, p3, p4, p7, p33, xi_ac h35 (u _ (by decide) (by decide)), xi_ac h36 (u _ (by decide) (by decide)), xi_ac h37 (u _ (by decide) (by decide)), xi_Tc hT (fun i i1 i2 => u i (by omega) (by omega)), ⟨⟨f4, xi_ac g4 (u _ (by decide) (by decide))⟩, ⟨f5, xi_ac g5 (u _ (by decide) (by decide))⟩, ⟨f6, xi_ac g6 (u _ (by decide) (by decide))⟩, ⟨f7, xi_ac g7 (u _ (by decide) (by decide))⟩⟩, b', e', xi_ac h48 (u _ (by decide) (by decide)), xi_ac h49 (u _ (by decide) (by decide)), h50⟩
def xi_O (A : xj_H) : Prop := ∃ F : Nat → Int64, A.1[50]? = some (.inl (3, 1, .inr (.inl F)))
/-- text; zone; events; spans -/
abbrev xi_G : Type := (Nat × (Nat → Int)) × (Int × Int × (Nat → Int) × (Nat → Int)) × (Nat × (Nat → Int) × (Nat → Int) × (Nat → List Int) × (Nat → List Int)) × (Nat × (Nat → Int) × (Nat → Int))
def xi_Cg (A : xj_H) (G : xi_G) : Prop := xi_C A G.1.1 G.1.2 G.2.1.1 G.2.1.2.1 G.2.1.2.2.1 G.2.1.2.2.2 G.2.2.1.1 G.2.2.1.2.1 G.2.2.1.2.2.1 G.2.2.1.2.2.2.1 G.2.2.1.2.2.2.2 G.2.2.2.1 G.2.2.2.2.1 G.2.2.2.2.2
def xi_Mg (A : xj_H) (p : Nat → Value) (G : xi_G) : Prop := xi_M A p G.1.1 G.1.2 G.2.1.1 G.2.1.2.1 G.2.1.2.2.1 G.2.1.2.2.2 G.2.2.1.1 G.2.2.1.2.1 G.2.2.1.2.2.1 G.2.2.1.2.2.2.1 G.2.2.1.2.2.2.2 G.2.2.2.1 G.2.2.2.2.1 G.2.2.2.2.2
def xi_Pg (G : xi_G) : Prop := xi_P G.1.1 G.1.2 G.2.1.1 G.2.1.2.1 G.2.1.2.2.1 G.2.1.2.2.2 G.2.2.1.1 G.2.2.1.2.1 G.2.2.1.2.2.1 G.2.2.1.2.2.2.1 G.2.2.1.2.2.2.2 G.2.2.2.1 G.2.2.2.2.1 G.2.2.2.2.2
/-- all of it -/
def xi_I (A : xj_H) : Prop := ∃ G p, xi_Pg G ∧ xi_Cg A G ∧ xi_Mg A p G ∧ xi_O A
theorem xi_th {A : xj_H} (x : String) (h1 : 1 ≤ A.2.1) (h2 : 6 ≤ A.2.2) : xj_th A x = some (.inr x, (A.1, A.2.1 - 1, A.2.2 - 6)) := by
  unfold xj_th
  rw [if_pos ⟨h1, h2⟩]
/-- the answer is put down -/
theorem xi_las {A : xj_H} (h : xi_O A) (x : Int64) : ∃ B, xj_las A (xj_o 50) 0 x = some B ∧ xk_u (fun i => i = 50) A B ∧ xi_O B ∧ ∀ C, C.1[50]? = B.1[50]? → xj_lai C (xj_o 50) 0 = some x := by
  obtain ⟨F, h1⟩ := h
  have e : xj_las A (xj_o 50) 0 x = some (A.1.set 50 (.inl (3, 1, .inr (.inl (vp_updL F 0 x)))), A.2) := by
    simp only [xj_las, xj_o, h1]
    rw [if_pos ⟨trivial, by decide⟩]
    rfl
  refine ⟨_, e, xk_set h1, ⟨_, xe_set_eq h1⟩, fun C hC => ?_⟩
  have hC' : C.1[50]? = some (.inl (3, 1, .inr (.inl (vp_updL F 0 x)))) := hC.trans (xe_set_eq h1)
  simp only [xj_lai, xj_o, hC']
  rw [if_pos ⟨trivial, by decide⟩]
  simp [vp_updL]
theorem xi_lg (x : Int64) : lg_cmp x x = 0 := (xr_cmp x x).mpr rfl

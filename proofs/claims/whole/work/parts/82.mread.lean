/-! The reference's reading: letters as a number; the state. -/
def xr_lr : List Int → Int
  | [] => 0
  | c :: w => 32 * xr_lr w + (c - 64)
theorem xr_lr_0 : ∀ {w : List Int}, (∀ c ∈ w, xr_lt c = true) → 0 ≤ xr_lr w
  | [], _ => by simp [xr_lr]
  | c :: w, h => by
    have hc : 65 ≤ c ∧ c ≤ 90 := by simpa [xr_lt] using h c List.mem_cons_self
    have := xr_lr_0 (w := w) (fun d hd => h d (List.mem_cons_of_mem _ hd))
    rw [xr_lr]; omega
theorem xr_lr_b : ∀ {w : List Int}, (∀ c ∈ w, xr_lt c = true) → xr_lr w < 32 ^ w.length
  | [], _ => by simp [xr_lr]
  | c :: w, h => by
    have hc : 65 ≤ c ∧ c ≤ 90 := by simpa [xr_lt] using h c List.mem_cons_self
    have := xr_lr_b (w := w) (fun d hd => h d (List.mem_cons_of_mem _ hd))
    rw [xr_lr, List.length_cons, Int.pow_succ]; omega
theorem xr_lr_i : ∀ {w v : List Int}, (∀ c ∈ w, xr_lt c = true) → (∀ c ∈ v, xr_lt c = true) → xr_lr w = xr_lr v → w = v
  | [], [], _, _, _ => rfl
  | [], c :: v, _, h, e => by
    have hc : 65 ≤ c ∧ c ≤ 90 := by simpa [xr_lt] using h c List.mem_cons_self
    have := xr_lr_0 (w := v) (fun d hd => h d (List.mem_cons_of_mem _ hd))
    rw [xr_lr, xr_lr] at e; omega
  | c :: w, [], h, _, e => by
    have hc : 65 ≤ c ∧ c ≤ 90 := by simpa [xr_lt] using h c List.mem_cons_self
    have := xr_lr_0 (w := w) (fun d hd => h d (List.mem_cons_of_mem _ hd))
    rw [xr_lr, xr_lr] at e; omega
  | c :: w, b :: v, h, g, e => by
    have hc : 65 ≤ c ∧ c ≤ 90 := by simpa [xr_lt] using h c List.mem_cons_self
    have hb : 65 ≤ b ∧ b ≤ 90 := by simpa [xr_lt] using g b List.mem_cons_self
    rw [xr_lr, xr_lr] at e
    have e1 : c = b := by omega
    have e2 : xr_lr w = xr_lr v := by omega
    rw [e1, xr_lr_i (fun d hd => h d (List.mem_cons_of_mem _ hd)) (fun d hd => g d (List.mem_cons_of_mem _ hd)) e2]
def xr_ln (v : Int) : List Int → Int
  | [] => v
  | c :: w => xr_ln (32 * v + c - 64) w
theorem xr_ln_r : ∀ (w u : List Int), xr_ln (xr_lr u) w = xr_lr (w.reverse ++ u)
  | [], u => rfl
  | c :: w, u => by
    have := xr_ln_r w (c :: u)
    rw [xr_lr] at this
    rw [xr_ln, show 32 * xr_lr u + c - 64 = 32 * xr_lr u + (c - 64) by omega, this]
    simp
theorem xr_ln_i {w v : List Int} (h : ∀ c ∈ w, xr_lt c = true) (g : ∀ c ∈ v, xr_lt c = true) : xr_ln 0 w = xr_ln 0 v ↔ w = v := by
  constructor
  · intro e
    have e1 := xr_ln_r w []
    have e2 := xr_ln_r v []
    rw [xr_lr] at e1 e2
    rw [e1, e2] at e
    simp only [List.append_nil] at e
    have := xr_lr_i (w := w.reverse) (v := v.reverse) (fun c hc => h c (List.mem_reverse.mp hc)) (fun c hc => g c (List.mem_reverse.mp hc)) e
    have := congrArg List.reverse this
    simpa using this
  · rintro rfl; rfl
theorem xr_p10 {k : Nat} (h : k ≤ 10) : (32 : Int) ^ k ≤ 1125899906842624 := by
  rcases (show k = 0 ∨ k = 1 ∨ k = 2 ∨ k = 3 ∨ k = 4 ∨ k = 5 ∨ k = 6 ∨ k = 7 ∨ k = 8 ∨ k = 9 ∨ k = 10 by omega) with rfl | rfl | rfl | rfl | rfl | rfl | rfl | rfl | rfl | rfl | rfl <;> decide
theorem xr_ln_b {w : List Int} (h : ∀ c ∈ w, xr_lt c = true) (hl : w.length ≤ 10) : 0 ≤ xr_ln 0 w ∧ xr_ln 0 w < 1125899906842624 := by
  have e1 := xr_ln_r w []
  rw [xr_lr] at e1
  simp only [List.append_nil] at e1
  have h' : ∀ c ∈ w.reverse, xr_lt c = true := fun c hc => h c (List.mem_reverse.mp hc)
  have h1 := xr_lr_0 h'
  have h2 := xr_lr_b h'
  have h3 := xr_p10 hl
  rw [List.length_reverse] at h2
  rw [e1]
  omega
def xL (n : Int) : Int64 := Int64.ofInt n
theorem xL_add (a b : Int) : xL a + xL b = xL (a + b) := (Int64.ofInt_add a b).symm
theorem xL_sub (a b : Int) : xL a - xL b = xL (a - b) := (Int64.ofInt_sub a b).symm
theorem xL_mul (a b : Int) : xL a * xL b = xL (a * b) := (Int64.ofInt_mul a b).symm
theorem xL_toInt {n : Int} (h0 : 0 ≤ n) (h1 : n < 1125899906842624) : (xL n).toInt = n := by
  unfold xL
  rw [Int64.toInt_ofInt]
  apply Int.bmod_eq_of_le <;> simp <;> omega
theorem xL_i32 {n : Int} (h0 : 0 ≤ n) (h1 : n ≤ 65535) : Int32.toInt64 (xI n) = xL n := by
  apply Int64.toInt_inj.mp
  rw [Int32.toInt_toInt64, xI_toInt ⟨by omega, by omega⟩, xL_toInt h0 (by omega)]
theorem xL_eq {w v : List Int} {K : Int64} (hK : K = xL (xr_ln 0 v)) (h : ∀ c ∈ w, xr_lt c = true) (hl : w.length ≤ 10) (g : ∀ c ∈ v, xr_lt c = true) (gl : v.length ≤ 10) : lg_cmp (xL (xr_ln 0 w)) K = 0 ↔ w = v := by
  have b1 := xr_ln_b h hl
  have b2 := xr_ln_b g gl
  rw [xr_cmp, hK]
  constructor
  · intro e
    have e1 : (xL (xr_ln 0 w)).toInt = (xL (xr_ln 0 v)).toInt := by rw [e]
    rw [xL_toInt b1.1 b1.2, xL_toInt b2.1 b2.2] at e1
    exact (xr_ln_i h g).mp e1
  · rintro rfl; rfl
/-! The state. -/
def xr_fq (f : Option Nat) : Int := match f with
  | none => 0
  | some k => (k : Int) + 1
def xr_Mf (p : Nat → Value) (i : Nat) (d : xr_D) : Prop := p 14 = .int (xI i) ∧ p 15 = .int (xI (xr_fq d.1)) ∧ p 16 = .int (xI (if d.2.1 = 0 then 1 else d.2.1)) ∧ p 17 = .int (xI (if d.2.2.1 = 0 then 200 else d.2.2.1)) ∧ p 18 = .int (xI (d.2.2.2.1.getD 36524)) ∧ p 19 = .int (if d.2.2.2.2.1 = [] then 0 else 1) ∧ p 22 = .int (xI (d.2.2.2.2.2.1.length : Nat)) ∧ p 25 = .int (xI (d.2.2.2.2.2.2.length : Nat))
def xr_Mo (p0 p : Nat → Value) : Prop := xm_R p ∧ ∀ k, k < 14 ∨ 25 < k → p k = p0 k
theorem xr_Mop {p0 p : Nat → Value} {k : Nat} {v : Value} (h : xr_Mo p0 p) (k0 : 14 ≤ k) (k1 : k ≤ 25) (hk : xm_rf.all (fun q => q.1 != k) = true) : xr_Mo p0 (xk_p p k v) := by
  refine ⟨xm_Rp h.1 hk, fun j hj => ?_⟩
  rw [xk_p_n _ _ (by omega)]
  exact h.2 j hj
def xr_Ma (A : xj_H) (d : xr_D) : Prop := xk_a A 2 44 13 (fun k => if (k : Int) ∈ d.2.2.2.2.1 then 1 else 0) ∧ (∃ f, xk_a A 0 45 8 f ∧ xu_h f d.2.2.2.2.2.1) ∧ (∃ f, xk_a A 0 46 7 f ∧ xu_h f (d.2.2.2.2.2.2.map (fun v => v.1))) ∧ (∃ f, xk_a A 0 47 7 f ∧ xu_h f (d.2.2.2.2.2.2.map (fun v => v.2))) ∧ d.2.2.2.2.2.1.length ≤ 8 ∧ d.2.2.2.2.2.2.length ≤ 7
theorem xr_Mau {S : Nat → Prop} {A B : xj_H} {d : xr_D} (h : xr_Ma A d) (u : xk_u S A B) (hs : ∀ k, 44 ≤ k → k ≤ 47 → ¬ S k) : xr_Ma B d := by
  obtain ⟨h1, ⟨f, f1, f2⟩, ⟨g, g1, g2⟩, ⟨e, e1, e2⟩, h5, h6⟩ := h
  exact ⟨xk_au h1 u (hs _ (by decide) (by decide)), ⟨f, xk_au f1 u (hs _ (by decide) (by decide)), f2⟩, ⟨g, xk_au g1 u (hs _ (by decide) (by decide)), g2⟩, ⟨e, xk_au e1 u (hs _ (by decide) (by decide)), e2⟩, h5, h6⟩
/-- the reference reading: its object, the text, the arrays, what is left of the text -/
def xr_M (p0 : Nat → Value) (A : xj_H) (n i : Nat) (T : Nat → Int) (d : xr_D) (l : List Int) : Prop := (∃ p, xk_o A 34 7 36 p ∧ xr_Mo p0 p ∧ xr_Mf p i d) ∧ p0 2 = .int (xI n) ∧ n ≤ 60 ∧ xk_a A 0 35 60 T ∧ xr_Ma A d ∧ xr_at T n i l
/-- what is known of it when the reading has failed -/
def xr_G (p0 : Nat → Value) (A : xj_H) : Prop := (∃ p, xk_o A 34 7 36 p ∧ xr_Mo p0 p) ∧ (∃ f, xk_a A 2 44 13 f) ∧ (∃ f, xk_a A 0 45 8 f) ∧ (∃ f, xk_a A 0 46 7 f) ∧ ∃ f, xk_a A 0 47 7 f
theorem xr_MG {p0 : Nat → Value} {A : xj_H} {n i : Nat} {T : Nat → Int} {d : xr_D} {l : List Int} (h : xr_M p0 A n i T d l) : xr_G p0 A := by
  obtain ⟨⟨p, h1, h2, _⟩, _, _, _, ⟨a1, ⟨f, f1, _⟩, ⟨g, g1, _⟩, ⟨e, e1, _⟩, _⟩, _⟩ := h
  exact ⟨⟨p, h1, h2⟩, ⟨_, a1⟩, ⟨f, f1⟩, ⟨g, g1⟩, ⟨e, e1⟩⟩
def xr_S4 (k : Nat) : Prop := k = 34 ∨ 44 ≤ k ∧ k ≤ 47
def xr_MU (A B : xj_H) : Prop := xk_u xr_S4 A B
theorem xr_MU34 {A B : xj_H} (u : xk_u (fun k => k = 34) A B) : xr_MU A B := xk_w u fun _ h => Or.inl h
theorem xr_MUa {A B : xj_H} {a : Nat} (u : xk_u (fun k => k = a) A B) (h0 : 44 ≤ a) (h1 : a ≤ 47) : xr_MU A B := xk_w u fun k (h : k = a) => Or.inr (by omega)
/-- the reference moves on -/
theorem xr_Mmv {p0 : Nat → Value} {A : xj_H} {n i : Nat} {T : Nat → Int} {d : xr_D} {l : List Int} (h : xr_M p0 A n i T d l) (j : Nat) : ∃ B, xj_pv A (xj_o 34) 7 14 (.int (xI j)) = some B ∧ xk_u (fun k => k = 34) A B ∧ ∀ r, xr_at T n j r → xr_M p0 B n j T d r := by
  obtain ⟨⟨p, h1, h2, h3⟩, h4, h5, h6, h7, h8⟩ := h
  obtain ⟨B, b1, b2, b3⟩ := xk_pv (.int (xI j)) h1 (k := 14) (by decide)
  refine ⟨B, b1, b3, fun r hr => ⟨⟨_, b2, xr_Mop h2 (by decide) (by decide) (by decide), ?_⟩, h4, h5, xk_au h6 b3 (by decide), xr_Mau h7 b3 (fun k _ _ => by omega), hr⟩⟩
  obtain ⟨f1, f2, f3, f4, f5, f6, f7, f8⟩ := h3
  exact ⟨rfl, f2, f3, f4, f5, f6, f7, f8⟩
def xr_hd (l : List Int) : Int := match l with
  | [] => -1
  | c :: _ => c
theorem xr_look {p0 : Nat → Value} {A : xj_H} {n i : Nat} {T : Nat → Int} {d : xr_D} {l : List Int} (h : xr_M p0 A n i T d l) : fM_look (xj_o 34) A = some (.inl (some (.int (xI (xr_hd l)))), A) := by
  obtain ⟨⟨p, h1, h2, h3⟩, h4, h5, h6, h7, h8⟩ := h
  have hi := h8.1
  have e2 : p 2 = .int (xI n) := (h2.2 2 (by decide)).trans h4
  unfold fM_look fM_look_24
  rw [xk_gi h1 h3.1 (by decide), xe_bind, xk_gi h1 e2 (by decide), xe_bind, xq_le (by omega) (by omega) (by omega) (by omega)]
  match l, h8, hi with
  | [], h8, hi =>
    simp at hi
    rw [if_pos (by omega)]; rfl
  | c :: r, h8, hi =>
    simp at hi
    obtain ⟨g1, g2, g3, g4⟩ := xr_at_h h8
    rw [if_neg (by omega), xm_gr 35 h1 h2.1 (by decide) (by decide), xe_bind, xe_bind, xk_ai h6 (by omega) (by omega) (by omega), xe_bind, Int.toNat_natCast, g1]
    rfl
theorem xr_hd_b {T : Nat → Int} {n i : Nat} {l : List Int} (h : xr_at T n i l) : -1 ≤ xr_hd l ∧ xr_hd l ≤ 65535 := by
  match l, h with
  | [], _ => simp [xr_hd]
  | c :: r, h =>
    have := h.2.2 c List.mem_cons_self
    simp only [xr_hd]; omega
theorem xr_Mrq {p0 : Nat → Value} {A : xj_H} {n i : Nat} {T : Nat → Int} {d : xr_D} {l : List Int} {F : Option xj_R} (h : xr_M p0 A n i T d l) : xj_rq A (xj_o 34) 7 F = F := by
  obtain ⟨⟨p, h1, h2, h3⟩, _⟩ := h
  exact xk_rq h1
theorem xr_Mat {p0 : Nat → Value} {A : xj_H} {n i : Nat} {T : Nat → Int} {d : xr_D} {l : List Int} (h : xr_M p0 A n i T d l) : xj_gi A (xj_o 34) 7 14 = some (xI i) := by
  obtain ⟨⟨p, h1, h2, h3⟩, _⟩ := h
  exact xk_gi h1 h3.1 (by decide)
theorem xr_mtk {p0 : Nat → Value} {A : xj_H} {n i : Nat} {T : Nat → Int} {d : xr_D} {l : List Int} (h : xr_M p0 A n i T d l) {c : Int} (c0 : 0 ≤ c) (c1 : c ≤ 65535) :
    ∃ B j r, fM_takes (xj_o 34) (xI c) A = some (.inl (some (.int (if xr_hd l = c then 1 else 0))), B) ∧ xk_u (fun k => k = 34) A B ∧ xr_M p0 B n j T d r ∧ ((xr_hd l = c ∧ l = c :: r) ∨ (xr_hd l ≠ c ∧ r = l ∧ ∀ r', l ≠ c :: r')) := by
  have hb := xr_hd_b h.2.2.2.2.2
  have ha := h.2.2.2.2.2
  unfold fM_takes
  rw [xr_Mrq h, xr_look h, xe_bi, xq_ne (by omega) (by omega) (by omega) (by omega)]
  by_cases hc : xr_hd l = c
  · obtain ⟨r, rfl⟩ : ∃ r, l = c :: r := by
      match l, hc with
      | [], hc => simp only [xr_hd] at hc; omega
      | b :: r, hc => exact ⟨r, by simp only [xr_hd] at hc; rw [hc]⟩
    obtain ⟨B, b1, b2, b3⟩ := xr_Mmv h (i + 1)
    rw [show ((i + 1 : Nat) : Int) = (i : Int) + 1 from rfl] at b1
    rw [if_pos hc, if_pos hc]
    unfold fM_takes_13 fM_takes_32
    rw [xk_b1, xr_Mat h, xe_bind, xl_1, xI_add, b1, xe_bind]
    exact ⟨B, i + 1, r, rfl, b2, b3 r (xr_at_1 ha), Or.inl ⟨hc, rfl⟩⟩
  · obtain ⟨B, b1, b2, b3⟩ := xr_Mmv h i
    rw [if_neg hc, if_neg hc]
    unfold fM_takes_13 fM_takes_32
    rw [xk_b0, xr_Mat h, xe_bind, b1, xe_bind]
    refine ⟨B, i, l, rfl, b2, b3 l ha, Or.inr ⟨hc, rfl, fun r' hr => hc ?_⟩⟩
    rw [hr]; rfl
theorem xr_mlL {p0 : Nat → Value} {n : Nat} {T : Nat → Int} {d : xr_D} {most : Nat} (hm : most ≤ 10) :
    ∀ (z k i : Nat) (v : Int) (A : xj_H) (l : List Int), most - k < z → k ≤ most → xr_M p0 A n i T d l →
      ∃ B, fM_letters_5 z (xj_o 34) (xI most) (xL v) (xI k) A = some (.inl (some (.long (xL (xr_ln v (xr_sp xr_lt (most - k) l).1)))), B) ∧ xk_u (fun k => k = 34) A B ∧ xr_M p0 B n (i + (xr_sp xr_lt (most - k) l).1.length) T d (xr_sp xr_lt (most - k) l).2
  | 0, k, i, v, A, l, h, _, _ => by omega
  | z + 1, k, i, v, A, l, hz, hk, hM => by
    have hb := xr_hd_b hM.2.2.2.2.2
    have ha := hM.2.2.2.2.2
    rw [fM_letters_5, xq_le (by omega) (by omega) (by omega) (by omega)]
    by_cases hc : (most : Int) ≤ k
    · rw [if_pos hc, show most - k = 0 by omega]
      exact ⟨A, rfl, xk_r _ _, hM⟩
    rw [if_neg hc, xr_Mrq hM, xr_look hM, xe_bi, xl_65, xq_lt (by omega) (by omega) (by omega) (by omega)]
    have stop : (∀ c r, l = c :: r → xr_lt c = false) → ∃ B, (some (.inl (some (.long (xL v))), A) : Option xj_R) = some (.inl (some (.long (xL (xr_ln v (xr_sp xr_lt (most - k) l).1)))), B) ∧ xk_u (fun k => k = 34) A B ∧ xr_M p0 B n (i + (xr_sp xr_lt (most - k) l).1.length) T d (xr_sp xr_lt (most - k) l).2 := by
      intro hs
      rw [xr_sp_n hs]
      exact ⟨A, rfl, xk_r _ _, hM⟩
    by_cases h1 : xr_hd l < 65
    · rw [if_pos h1]
      exact stop fun c r e => by rw [e, xr_hd] at h1; simp [xr_lt]; omega
    rw [if_neg h1, xr_Mrq hM, xr_look hM, xe_bi, xl_90, xq_lt (by omega) (by omega) (by omega) (by omega)]
    by_cases h2 : 90 < xr_hd l
    · rw [if_pos h2]
      exact stop fun c r e => by rw [e, xr_hd] at h2; simp [xr_lt]; omega
    rw [if_neg h2, xr_Mrq hM, xr_look hM, xe_bi, xr_Mat hM, xe_bind, xl_1, xI_add]
    match l, hM, ha, hb, h1, h2 with
    | [], hM, ha, hb, h1, h2 => simp [xr_hd] at h1
    | c :: r, hM, ha, hb, h1, h2 =>
      simp only [xr_hd] at h1 h2 hb ⊢
      obtain ⟨B, b1, b2, b3⟩ := xr_Mmv hM (i + 1)
      rw [show ((i + 1 : Nat) : Int) = (i : Int) + 1 from rfl] at b1
      have hl : xr_lt c = true := by simp [xr_lt]; omega
      rw [b1, xe_bind, xL_i32 (by omega) (by omega), show (32 : Int64) = xL 32 from rfl, show (64 : Int64) = xL 64 from rfl, xL_mul, xL_add, xL_sub, xI_add]
      obtain ⟨C, c1, c2, c3⟩ := xr_mlL hm z (k + 1) (i + 1) (v * 32 + c - 64) B r (by omega) (by omega) (b3 r (xr_at_1 ha))
      rw [show ((k + 1 : Nat) : Int) = (k : Int) + 1 from rfl] at c1
      have hsp : xr_sp xr_lt (most - k) (c :: r) = (c :: (xr_sp xr_lt (most - (k + 1)) r).1, (xr_sp xr_lt (most - (k + 1)) r).2) := by
        rw [show most - k = (most - (k + 1)) + 1 by omega, xr_sp, if_pos hl]
      rw [hsp]
      simp only [xr_ln, List.length_cons]
      rw [show i + ((xr_sp xr_lt (most - (k + 1)) r).1.length + 1) = i + 1 + (xr_sp xr_lt (most - (k + 1)) r).1.length by omega, show 32 * v + c - 64 = v * 32 + c - 64 by omega]
      exact ⟨C, c1, xk_t b2 c2, c3⟩
theorem xr_ml {p0 : Nat → Value} {n i : Nat} {T : Nat → Int} {d : xr_D} {A : xj_H} {l : List Int} {most : Nat} (hm : most ≤ 10) (hM : xr_M p0 A n i T d l) :
    ∃ B, fM_letters (xj_o 34) (xI most) A = some (.inl (some (.long (xL (xr_ln 0 (xr_sp xr_lt most l).1)))), B) ∧ xk_u (fun k => k = 34) A B ∧ xr_M p0 B n (i + (xr_sp xr_lt most l).1.length) T d (xr_sp xr_lt most l).2 := by
  have := xr_mlL hm xj_fu 0 i 0 A l (by unfold xj_fu; omega) (by omega) hM
  rw [Nat.sub_zero, show ((0 : Nat) : Int) = 0 from rfl] at this
  exact this
def xr_mv' (l : List Int) (k : Nat) : Int := if (xr_sp xr_dg k l).1 = [] then -1 else xr_nv 0 (xr_sp xr_dg k l).1
theorem xr_mdL {p0 : Nat → Value} {n : Nat} {T : Nat → Int} {d : xr_D} {most : Nat} (hm : most ≤ 8) :
    ∀ (z k i : Nat) (v : Int) (A : xj_H) (l : List Int), most - k < z → k ≤ most → xr_M p0 A n i T d l → 0 ≤ v → v < 10 ^ k →
      ∃ B, fM_digits_4 z (xj_o 34) (xI most) (xI v) (xI k) A = some (.inl (some (.int (xI (xr_nv v (xr_sp xr_dg (most - k) l).1)))), B) ∧ xk_u (fun k => k = 34) A B ∧ xr_M p0 B n (i + (xr_sp xr_dg (most - k) l).1.length) T d (xr_sp xr_dg (most - k) l).2 ∧ 0 ≤ xr_nv v (xr_sp xr_dg (most - k) l).1 ∧ xr_nv v (xr_sp xr_dg (most - k) l).1 < 10 ^ most
  | 0, k, i, v, A, l, h, _, _, _, _ => by omega
  | z + 1, k, i, v, A, l, hz, hk, hM, v0, v1 => by
    have hb := xr_hd_b hM.2.2.2.2.2
    have ha := hM.2.2.2.2.2
    have hp : (10 : Int) ^ k ≤ 10 ^ most := by
      have : (10 : Nat) ^ k ≤ 10 ^ most := Nat.pow_le_pow_right (by decide) hk
      exact_mod_cast this
    have hp8 := xr_p8 hm
    rw [fM_digits_4, xq_le (by omega) (by omega) (by omega) (by omega)]
    by_cases hc : (most : Int) ≤ k
    · rw [if_pos hc, show most - k = 0 by omega]
      exact ⟨A, rfl, xk_r _ _, hM, v0, by show v < _; omega⟩
    rw [if_neg hc, xr_Mrq hM, xr_look hM, xe_bi, xl_48, xq_lt (by omega) (by omega) (by omega) (by omega)]
    have stop : (∀ c r, l = c :: r → xr_dg c = false) → ∃ B, (some (.inl (some (.int (xI v))), A) : Option xj_R) = some (.inl (some (.int (xI (xr_nv v (xr_sp xr_dg (most - k) l).1)))), B) ∧ xk_u (fun k => k = 34) A B ∧ xr_M p0 B n (i + (xr_sp xr_dg (most - k) l).1.length) T d (xr_sp xr_dg (most - k) l).2 ∧ 0 ≤ xr_nv v (xr_sp xr_dg (most - k) l).1 ∧ xr_nv v (xr_sp xr_dg (most - k) l).1 < 10 ^ most := by
      intro hs
      rw [xr_sp_n hs]
      exact ⟨A, rfl, xk_r _ _, hM, v0, by show v < _; omega⟩
    by_cases h1 : xr_hd l < 48
    · rw [if_pos h1]
      exact stop fun c r e => by rw [e, xr_hd] at h1; simp [xr_dg]; omega
    rw [if_neg h1, xr_Mrq hM, xr_look hM, xe_bi, xl_57, xq_lt (by omega) (by omega) (by omega) (by omega)]
    by_cases h2 : 57 < xr_hd l
    · rw [if_pos h2]
      exact stop fun c r e => by rw [e, xr_hd] at h2; simp [xr_dg]; omega
    rw [if_neg h2, xl_0, xq_le (by omega) (by omega) (by omega) (by omega), if_pos v0]
    unfold fM_digits_39
    rw [xr_Mrq hM, xr_look hM, xe_bi, xr_Mat hM, xe_bind, xl_1, xI_add]
    match l, hM, ha, hb, h1, h2 with
    | [], hM, ha, hb, h1, h2 => simp [xr_hd] at h1
    | c :: r, hM, ha, hb, h1, h2 =>
      simp only [xr_hd] at h1 h2 hb ⊢
      obtain ⟨B, b1, b2, b3⟩ := xr_Mmv hM (i + 1)
      rw [show ((i + 1 : Nat) : Int) = (i : Int) + 1 from rfl] at b1
      have hl : xr_dg c = true := by simp [xr_dg]; omega
      have hpk : (10 : Int) ^ (k + 1) = 10 * 10 ^ k := by rw [Int.pow_succ]; omega
      have hpk1 : (10 : Int) ^ (k + 1) ≤ 10 ^ most := by
        have : (10 : Nat) ^ (k + 1) ≤ 10 ^ most := Nat.pow_le_pow_right (by decide) (by omega)
        exact_mod_cast this
      rw [b1, xe_bind, xl_10, xI_mul, xI_add, xl_48, xI_sub, xI_add]
      obtain ⟨C, c1, c2, c3, c4, c5⟩ := xr_mdL hm z (k + 1) (i + 1) (10 * v + c - 48) B r (by omega) (by omega) (b3 r (xr_at_1 ha)) (by omega) (by omega)
      rw [show ((k + 1 : Nat) : Int) = (k : Int) + 1 from rfl] at c1
      have hsp : xr_sp xr_dg (most - k) (c :: r) = (c :: (xr_sp xr_dg (most - (k + 1)) r).1, (xr_sp xr_dg (most - (k + 1)) r).2) := by
        rw [show most - k = (most - (k + 1)) + 1 by omega, xr_sp, if_pos hl]
      rw [hsp]
      simp only [xr_nv, List.length_cons]
      rw [show i + ((xr_sp xr_dg (most - (k + 1)) r).1.length + 1) = i + 1 + (xr_sp xr_dg (most - (k + 1)) r).1.length by omega]
      exact ⟨C, c1, xk_t b2 c2, c3, c4, c5⟩

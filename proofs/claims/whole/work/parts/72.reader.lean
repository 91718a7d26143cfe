/-! What stands at a place of the text; the class's reader. -/
def xr_at (T : Nat → Int) (n i : Nat) (l : List Int) : Prop := i + l.length = n ∧ xu_h (fun k => T (i + k)) l ∧ ∀ c ∈ l, 0 ≤ c ∧ c ≤ 65535
theorem xr_at_1 {T : Nat → Int} {n i : Nat} {c : Int} {r : List Int} (h : xr_at T n i (c :: r)) : xr_at T n (i + 1) r := by
  obtain ⟨h1, h2, h3⟩ := h
  refine ⟨by simp at h1; omega, fun k x hx => ?_, fun c hc => h3 c (List.mem_cons_of_mem _ hc)⟩
  have := h2 (k + 1) x (by simpa using hx)
  simp only at this ⊢
  rwa [show i + 1 + k = i + (k + 1) by omega]
theorem xr_at_a {T : Nat → Int} {n : Nat} : ∀ {w : List Int} {i : Nat} {r : List Int}, xr_at T n i (w ++ r) → xr_at T n (i + w.length) r
  | [], i, r, h => h
  | c :: w, i, r, h => by
    have := xr_at_a (w := w) (r := r) (xr_at_1 h)
    rwa [show i + (c :: w).length = i + 1 + w.length by simp; omega]
theorem xr_at_h {T : Nat → Int} {n i : Nat} {c : Int} {r : List Int} (h : xr_at T n i (c :: r)) : T i = c ∧ 0 ≤ c ∧ c ≤ 65535 ∧ i < n := by
  obtain ⟨h1, h2, h3⟩ := h
  have := h2 0 c (by simp)
  have := h3 c (List.mem_cons_self)
  simp at h1
  exact ⟨by assumption, by omega, by omega, by omega⟩
/-- the reader at place i -/
def xr_Q (A : xj_H) (q tx ru n i : Nat) : Prop := A.1[q]? = some (.inr (5, [.ref tx, .int (xI n), .int (xI i), .ref ru]))
theorem xr_mv {A : xj_H} {q tx ru n i : Nat} (h : xr_Q A q tx ru n i) (j : Nat) : ∃ B, xj_pv A (xj_o q) 5 2 (.int (xI j)) = some B ∧ xr_Q B q tx ru n j ∧ xk_u (fun k => k = q) A B := xk_pw (.int (xI j)) h (by simp)
theorem xr_mv1 {A : xj_H} {q tx ru n i : Nat} (h : xr_Q A q tx ru n i) : ∃ B, xj_pv A (xj_o q) 5 2 (.int (xI ((i : Int) + 1))) = some B ∧ xr_Q B q tx ru n (i + 1) ∧ xk_u (fun k => k = q) A B := xr_mv h (i + 1)
def xr_dg (c : Int) : Bool := decide (48 ≤ c) && decide (c ≤ 57)
def xr_lt (c : Int) : Bool := decide (65 ≤ c) && decide (c ≤ 90)
theorem xr_take {A : xj_H} {q tx ru n i : Nat} {T : Nat → Int} {l : List Int} (hQ : xr_Q A q tx ru n i) (hT : xk_a A 1 tx 60 T) (hn : n ≤ 60) (hl : xr_at T n i l) {c : Int} (c0 : 0 ≤ c) (c1 : c ≤ 65535) :
    (∃ r B, l = c :: r ∧ fQ_take (xj_o q) (xI c) A = some (.inl (some (.int 1)), B) ∧ xr_Q B q tx ru n (i + 1) ∧ xk_u (fun k => k = q) A B ∧ xr_at T n (i + 1) r) ∨
    ((∀ r, l ≠ c :: r) ∧ fQ_take (xj_o q) (xI c) A = some (.inl (some (.int 0)), A)) := by
  have hi : i + l.length = n := hl.1
  unfold fQ_take fQ_take_24
  rw [xe_gi hQ rfl, xe_bind, xe_gi hQ rfl, xe_bind, xq_le (by omega) (by omega) (by omega) (by omega)]
  match l, hl, hi with
  | [], hl, hi =>
    rw [if_pos (by simp at hi; omega)]
    exact Or.inr ⟨fun r h => (by cases h), rfl⟩
  | d :: r, hl, hi =>
    obtain ⟨h1, h2, h3, h4⟩ := xr_at_h hl
    obtain ⟨B, b1, b2, b3⟩ := xr_mv1 hQ
    rw [if_neg (by omega), xe_gr hQ rfl, xe_bind, xe_bind, xk_ai hT (by omega) (by omega) (by omega), xe_bind, Int.toNat_natCast, h1, xq_eq (by omega) (by omega) (by omega) (by omega)]
    by_cases e : d = c
    · subst e
      rw [if_pos rfl, xe_bind, xl_1, xI_add, b1, xe_bind]
      exact Or.inl ⟨r, B, rfl, rfl, b2, b3, xr_at_1 hl⟩
    · rw [if_neg e]
      exact Or.inr ⟨fun r' h => by cases h; exact e rfl, rfl⟩
theorem xr_isDig {A : xj_H} {q tx ru n i : Nat} {T : Nat → Int} {l : List Int} (hQ : xr_Q A q tx ru n i) (hT : xk_a A 1 tx 60 T) (hn : n ≤ 60) (hl : xr_at T n i l) :
    (∃ c r, l = c :: r ∧ xr_dg c = true ∧ fQ_isDigitNext (xj_o q) A = some (.inl (some (.int 1)), A)) ∨
    ((∀ c r, l = c :: r → xr_dg c = false) ∧ fQ_isDigitNext (xj_o q) A = some (.inl (some (.int 0)), A)) := by
  have hi : i + l.length = n := hl.1
  unfold fQ_isDigitNext fQ_isDigitNext_43 fQ_isDigitNext_44
  rw [xe_gi hQ rfl, xe_bind, xe_gi hQ rfl, xe_bind, xq_le (by omega) (by omega) (by omega) (by omega)]
  match l, hl, hi with
  | [], hl, hi =>
    rw [if_pos (by simp at hi; omega)]
    exact Or.inr ⟨fun c r h => (by cases h), rfl⟩
  | d :: r, hl, hi =>
    obtain ⟨h1, h2, h3, h4⟩ := xr_at_h hl
    rw [if_neg (by omega), xe_gr hQ rfl, xe_bind, xe_bind, xk_ai hT (by omega) (by omega) (by omega), xe_bind, Int.toNat_natCast, h1, xl_48, xq_lt (by omega) (by omega) (by omega) (by omega)]
    by_cases e : d < 48
    · rw [if_pos e]
      exact Or.inr ⟨fun c r' h => by cases h; simp [xr_dg]; omega, rfl⟩
    · rw [if_neg e, xe_bind, xe_bind, xk_ai hT (by omega) (by omega) (by omega), xe_bind, Int.toNat_natCast, h1, xl_57, xq_lt (by omega) (by omega) (by omega) (by omega)]
      by_cases e2 : 57 < d
      · rw [if_pos e2]
        exact Or.inr ⟨fun c r' h => by cases h; simp [xr_dg]; omega, rfl⟩
      · rw [if_neg e2]
        exact Or.inl ⟨d, r, rfl, by simp [xr_dg]; omega, rfl⟩
/-- at most k from the front that have the property, and what is behind them -/
def xr_sp (p : Int → Bool) : Nat → List Int → List Int × List Int
  | 0, l => ([], l)
  | _ + 1, [] => ([], [])
  | k + 1, c :: r => if p c = true then (c :: (xr_sp p k r).1, (xr_sp p k r).2) else ([], c :: r)
theorem xr_sp_a {p : Int → Bool} : ∀ (k : Nat) (l : List Int), (xr_sp p k l).1 ++ (xr_sp p k l).2 = l
  | 0, l => rfl
  | _ + 1, [] => rfl
  | k + 1, c :: r => by
    unfold xr_sp
    by_cases h : p c = true
    · rw [if_pos h]; simp [xr_sp_a k r]
    · rw [if_neg h]; rfl
theorem xr_sp_p {p : Int → Bool} : ∀ (k : Nat) (l : List Int), (∀ c ∈ (xr_sp p k l).1, p c = true) ∧ (xr_sp p k l).1.length ≤ k
  | 0, l => ⟨fun c hc => by simp [xr_sp] at hc, by simp [xr_sp]⟩
  | _ + 1, [] => ⟨fun c hc => by simp [xr_sp] at hc, by simp [xr_sp]⟩
  | k + 1, c :: r => by
    unfold xr_sp
    by_cases h : p c = true
    · rw [if_pos h]
      have := xr_sp_p (p := p) k r
      refine ⟨fun d hd => ?_, by simp; omega⟩
      rcases List.mem_cons.mp hd with rfl | hd
      · exact h
      · exact this.1 d hd
    · rw [if_neg h]; exact ⟨fun c hc => (by cases hc), by simp⟩
def xr_nv (v : Int) : List Int → Int
  | [] => v
  | c :: r => xr_nv (10 * v + c - 48) r
theorem xr_p8 {m : Nat} (h : m ≤ 8) : (10 : Int) ^ m ≤ 100000000 := by
  rcases (show m = 0 ∨ m = 1 ∨ m = 2 ∨ m = 3 ∨ m = 4 ∨ m = 5 ∨ m = 6 ∨ m = 7 ∨ m = 8 by omega) with rfl | rfl | rfl | rfl | rfl | rfl | rfl | rfl | rfl <;> decide
theorem xr_tnL {q tx ru n : Nat} {T : Nat → Int} (hn : n ≤ 60) (hqx : q ≠ tx) {most : Nat} (hm : most ≤ 8) {hi : Int} :
    ∀ (z k i : Nat) (v : Int) (A : xj_H) (l : List Int), most - k < z → k ≤ most → xr_Q A q tx ru n i → xk_a A 1 tx 60 T → xr_at T n i l → 0 ≤ v → v < 10 ^ k →
      ∃ B, fQ_takeNumber_5 z (xj_o q) (xI most) (xI hi) (xI v) (xI k) A = fQ_takeNumber_52 (xI hi) (xI (xr_nv v (xr_sp xr_dg (most - k) l).1)) B ∧ xr_Q B q tx ru n (i + (xr_sp xr_dg (most - k) l).1.length) ∧ xk_u (fun k => k = q) A B ∧ xr_at T n (i + (xr_sp xr_dg (most - k) l).1.length) (xr_sp xr_dg (most - k) l).2 ∧ 0 ≤ xr_nv v (xr_sp xr_dg (most - k) l).1 ∧ xr_nv v (xr_sp xr_dg (most - k) l).1 < 10 ^ most
  | 0, k, i, v, A, l, h, _, _, _, _, _, _ => by omega
  | z + 1, k, i, v, A, l, hz, hk, hQ, hT, hl, v0, v1 => by
    have hp : (10 : Int) ^ k ≤ 10 ^ most := by
      have : (10 : Nat) ^ k ≤ 10 ^ most := Nat.pow_le_pow_right (by decide) hk
      exact_mod_cast this
    have hp8 := xr_p8 hm
    rw [fQ_takeNumber_5, xq_le (by omega) (by omega) (by omega) (by omega)]
    by_cases hc : (most : Int) ≤ k
    · rw [if_pos hc, show most - k = 0 by omega]
      exact ⟨A, rfl, hQ, xk_r _ _, hl, v0, by show v < _; omega⟩
    rw [if_neg hc, xe_rq hQ]
    rcases xr_isDig hQ hT hn hl with ⟨c, r, rfl, h2, h3⟩ | ⟨h2, h3⟩
    · obtain ⟨g1, g2, g3, g4⟩ := xr_at_h hl
      obtain ⟨B, b1, b2, b3⟩ := xr_mv1 hQ
      have hcd : 48 ≤ c ∧ c ≤ 57 := by simpa [xr_dg] using h2
      have hpk : (10 : Int) ^ (k + 1) = 10 * 10 ^ k := by rw [Int.pow_succ]; omega
      have hpk1 : (10 : Int) ^ (k + 1) ≤ 10 ^ most := by
        have : (10 : Nat) ^ (k + 1) ≤ 10 ^ most := Nat.pow_le_pow_right (by decide) (by omega)
        exact_mod_cast this
      rw [h3, xe_bi, xk_b1, xe_gr hQ rfl, xe_bind, xe_gi hQ rfl, xe_bind, xk_ai hT (by omega) (by omega) (by omega), xe_bind, xe_bind, Int.toNat_natCast, g1, xl_1, xI_add, b1, xe_bind, xl_10, xI_mul, xI_add, xl_48, xI_sub, xI_add]
      obtain ⟨C, c1, c2, c3, c4, c5, c6⟩ := xr_tnL hn hqx hm (hi := hi) z (k + 1) (i + 1) (10 * v + c - 48) B r (by omega) (by omega) b2 (xk_au hT b3 (fun h => hqx h.symm)) (xr_at_1 hl) (by omega) (by omega)
      have hsp : xr_sp xr_dg (most - k) (c :: r) = (c :: (xr_sp xr_dg (most - (k + 1)) r).1, (xr_sp xr_dg (most - (k + 1)) r).2) := by
        rw [show most - k = (most - (k + 1)) + 1 by omega, xr_sp, if_pos h2]
      rw [hsp]
      simp only [xr_nv, List.length_cons]
      rw [show i + ((xr_sp xr_dg (most - (k + 1)) r).1.length + 1) = i + 1 + (xr_sp xr_dg (most - (k + 1)) r).1.length by omega]
      exact ⟨C, c1, c2, xk_t b3 c3, c4, c5, c6⟩
    · have hsp : xr_sp xr_dg (most - k) l = ([], l) := by
        match l, h2 with
        | [], _ => rw [show most - k = (most - (k + 1)) + 1 by omega]; rfl
        | c :: r, h2 => rw [show most - k = (most - (k + 1)) + 1 by omega, xr_sp, if_neg (by rw [h2 c r rfl]; decide)]
      rw [h3, xe_bi, xk_b0, hsp]
      exact ⟨A, rfl, hQ, xk_r _ _, hl, v0, by show v < _; omega⟩
/-- the number that stands there, 0 if there is none from 1 to the highest -/
def xr_num (k : Nat) (hi : Int) (l : List Int) : Int := if xr_nv 0 (xr_sp xr_dg k l).1 ≤ hi then xr_nv 0 (xr_sp xr_dg k l).1 else 0
theorem xr_tn {q tx ru n i : Nat} {T : Nat → Int} (hn : n ≤ 60) (hqx : q ≠ tx) {most : Nat} (hm : most ≤ 8) {hi : Int} (hi0 : 0 ≤ hi) (hi1 : hi ≤ 100000000) {A : xj_H} {l : List Int} (hQ : xr_Q A q tx ru n i) (hT : xk_a A 1 tx 60 T) (hl : xr_at T n i l) :
    ∃ B, fQ_takeNumber (xj_o q) (xI most) (xI hi) A = some (.inl (some (.int (xI (xr_num most hi l)))), B) ∧ xr_Q B q tx ru n (i + (xr_sp xr_dg most l).1.length) ∧ xk_u (fun k => k = q) A B ∧ xr_at T n (i + (xr_sp xr_dg most l).1.length) (xr_sp xr_dg most l).2 ∧ 0 ≤ xr_nv 0 (xr_sp xr_dg most l).1 ∧ xr_nv 0 (xr_sp xr_dg most l).1 < 100000000 := by
  obtain ⟨B, b1, b2, b3, b4, b5, b6⟩ := xr_tnL hn hqx hm (hi := hi) xj_fu 0 i 0 A l (by unfold xj_fu; omega) (by omega) hQ hT hl (by omega) (by decide)
  rw [Nat.sub_zero] at *
  have hp8 := xr_p8 hm
  refine ⟨B, ?_, b2, b3, b4, b5, by omega⟩
  have e1 : fQ_takeNumber (xj_o q) (xI most) (xI hi) A = fQ_takeNumber_5 xj_fu (xj_o q) (xI most) (xI hi) (xI 0) (xI 0) A := rfl
  rw [show ((0 : Nat) : Int) = 0 from rfl] at b1
  rw [e1, b1]
  unfold fQ_takeNumber_52 xr_num
  rw [xq_lt (by omega) (by omega) (by omega) (by omega)]
  by_cases hc : hi < xr_nv 0 (xr_sp xr_dg most l).1
  · rw [if_pos hc, if_neg (by omega)]; rfl
  · rw [if_neg hc, if_pos (by omega)]; rfl

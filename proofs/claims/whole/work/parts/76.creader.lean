/-! The class's rule as it is read. -/
def xr_fv (f : Option Nat) : Value := match f with
  | none => .null
  | some k => .retAddr k
def xr_fs (d : xr_D) (M N E W : Int32) (H G : Int64) : List Value := [xr_fv d.1, .int (xI d.2.1), .int (xI d.2.2.1), .int (if d.2.2.2.1.isSome = true then 1 else 0), .int (xI (d.2.2.2.1.getD 36524)), .int M, .int N, .int E, .int W, .long H, .long G]
def xr_B (d : xr_D) (M N E W : Int32) (H G : Int64) : Prop := xr_b M (fun k => (k : Int) ∈ d.2.2.2.2.1) ∧ xr_b N (fun k => (k : Int) ∈ d.2.2.2.2.2.1) ∧ xr_b E (fun k => -(k : Int) ∈ d.2.2.2.2.2.1) ∧ xr_b W (fun k => ((k : Int), (0 : Int)) ∈ d.2.2.2.2.2.2) ∧ xr_bl H (fun k => 7 ≤ k ∧ (((k % 7 : Nat) : Int), ((k / 7 : Nat) : Int)) ∈ d.2.2.2.2.2.2) ∧ xr_bl G (fun k => 7 ≤ k ∧ (((k % 7 : Nat) : Int), -((k / 7 : Nat) : Int)) ∈ d.2.2.2.2.2.2)
def xr_R (A : xj_H) (ru : Nat) (d : xr_D) : Prop := ∃ (M N E W : Int32) (H G : Int64), A.1[ru]? = some (.inr (4, xr_fs d M N E W H G)) ∧ xr_B d M N E W H G
/-- the class reading: the reader, the text, the rule -/
def xr_C (A : xj_H) (q tx ru n i : Nat) (T : Nat → Int) (d : xr_D) (l : List Int) : Prop := xr_Q A q tx ru n i ∧ xk_a A 1 tx 60 T ∧ xr_R A ru d ∧ xr_at T n i l
def xr_dis (q tx ru n : Nat) : Prop := q ≠ tx ∧ q ≠ ru ∧ tx ≠ ru ∧ n ≤ 60
theorem xr_Ru {S : Nat → Prop} {A B : xj_H} {ru : Nat} {d : xr_D} (h : xr_R A ru d) (u : xk_u S A B) (hs : ¬ S ru) : xr_R B ru d := by
  obtain ⟨M, N, E, W, H, G, h1, h2⟩ := h
  exact ⟨M, N, E, W, H, G, xk_c h1 u hs, h2⟩
def xr_J (q ru : Nat) (A B : xj_H) : Prop := xk_u (fun k => k = q ∨ k = ru) A B
theorem xr_Jq {q ru : Nat} {A B : xj_H} (u : xk_u (fun k => k = q) A B) : xr_J q ru A B := xk_w u fun _ h => Or.inl h
theorem xr_Jr {q ru : Nat} {A B : xj_H} (u : xk_u (fun k => k = ru) A B) : xr_J q ru A B := xk_w u fun _ h => Or.inr h
/-- the reader moves on, the rule stays -/
theorem xr_Cm {A B : xj_H} {q tx ru n i j : Nat} {T : Nat → Int} {d : xr_D} {l r : List Int} (hd : xr_dis q tx ru n) (h : xr_C A q tx ru n i T d l) (hQ : xr_Q B q tx ru n j) (u : xk_u (fun k => k = q) A B) (ha : xr_at T n j r) : xr_C B q tx ru n j T d r :=
  ⟨hQ, xk_au h.2.1 u (fun e => hd.1 e.symm), xr_Ru h.2.2.1 u (fun e => hd.2.1 e.symm), ha⟩
/-- the rule changes, the reader stays -/
theorem xr_Cr {A B : xj_H} {q tx ru n i : Nat} {T : Nat → Int} {d d' : xr_D} {l : List Int} (hd : xr_dis q tx ru n) (h : xr_C A q tx ru n i T d l) (hR : xr_R B ru d') (u : xk_u (fun k => k = ru) A B) : xr_C B q tx ru n i T d' l :=
  ⟨xk_c h.1 u hd.2.1, xk_au h.2.1 u hd.2.2.1, hR, h.2.2.2⟩
theorem xr_hasNu {A : xj_H} {ru : Nat} {d : xr_D} (hk : ∀ v ∈ d.2.2.2.2.2.1, xr_oku v) (hR : xr_R A ru d) : fR_hasNumbers (xj_o ru) A = some (.inl (some (.int (if d.2.2.2.2.2.1 = [] then 0 else 1))), A) := by
  obtain ⟨M, N, E, W, H, G, h1, b1, b2, b3, b4, b5, b6⟩ := hR
  have hz := xr_b_z (xr_b_or b2 b3)
  unfold fR_hasNumbers fR_hasNumbers_17
  rw [xe_gi h1 rfl, xe_bind, xe_gi h1 rfl, xe_bind]
  by_cases he : d.2.2.2.2.2.1 = []
  · rw [if_pos (hz.mpr fun k _ => by rw [he]; simp), if_pos he]; rfl
  · rw [if_neg, if_neg he]; rfl
    intro hc
    obtain ⟨v, hv⟩ := List.exists_mem_of_ne_nil _ he
    have hb := hk v hv
    unfold xr_oku at hb
    refine hz.mp hc v.natAbs (by omega) ?_
    by_cases h0 : 0 ≤ v
    · refine Or.inl ?_
      rw [show ((v.natAbs : Nat) : Int) = v by omega]; exact hv
    · refine Or.inr ?_
      rw [show -((v.natAbs : Nat) : Int) = v by omega]; exact hv
theorem xr_i64 (x : Int32) : Int32.toInt64 x = 0 ↔ x = 0 := by
  constructor
  · intro h
    have h1 : (Int32.toInt64 x).toInt = (0 : Int64).toInt := by rw [h]
    rw [Int32.toInt_toInt64] at h1
    apply Int32.toInt_inj.mp
    rw [h1]; rfl
  · rintro rfl; rfl
theorem xr_or64 (x y : Int64) : x ||| y = 0 ↔ x = 0 ∧ y = 0 := by
  constructor
  · intro h
    have h1 : ∀ k, (x ||| y).toBitVec.getLsbD k = false := fun k => by rw [h]; simp
    constructor
    · apply Int64.toBitVec_inj.mp
      apply BitVec.eq_of_getLsbD_eq
      intro k hk
      have := h1 k
      rw [Int64.toBitVec_or, BitVec.getLsbD_or, Bool.or_eq_false_iff] at this
      rw [this.1]; simp
    · apply Int64.toBitVec_inj.mp
      apply BitVec.eq_of_getLsbD_eq
      intro k hk
      have := h1 k
      rw [Int64.toBitVec_or, BitVec.getLsbD_or, Bool.or_eq_false_iff] at this
      rw [this.2]; simp
  · rintro ⟨rfl, rfl⟩; decide
theorem xr_hasNth {A : xj_H} {ru : Nat} {d : xr_D} (hk : ∀ v ∈ d.2.2.2.2.2.2, xr_okw v) (hR : xr_R A ru d) : ∃ b : Int32, fR_hasNthWeekdays (xj_o ru) A = some (.inl (some (.int b)), A) ∧ ((b = 0 ∧ ∀ v ∈ d.2.2.2.2.2.2, v.2 = 0) ∨ (b = 1 ∧ ¬ ∀ v ∈ d.2.2.2.2.2.2, v.2 = 0)) := by
  obtain ⟨M, N, E, W, H, G, h1, b1, b2, b3, b4, b5, b6⟩ := hR
  have hz := xr_bl_z (xr_bl_or b5 b6)
  unfold fR_hasNthWeekdays fR_hasNthWeekdays_19
  rw [xe_gl h1 rfl, xe_bind, xe_gl h1 rfl, xe_bind]
  by_cases he : ∀ v ∈ d.2.2.2.2.2.2, v.2 = 0
  · refine ⟨0, ?_, Or.inl ⟨rfl, he⟩⟩
    rw [if_pos ((xr_cmp _ _).mpr (hz.mpr fun k _ => ?_))]; rfl
    rintro (⟨h2, h3⟩ | ⟨h2, h3⟩)
    · have := he _ h3; simp only at this; omega
    · have := he _ h3; simp only at this; omega
  · refine ⟨1, ?_, Or.inr ⟨rfl, he⟩⟩
    rw [if_neg]; rfl
    intro hc
    have hz1 := hz.mp ((xr_cmp _ _).mp hc)
    apply he
    intro v hv
    have hb := hk v hv
    unfold xr_okw at hb
    apply Classical.byContradiction
    intro hv0
    by_cases h0 : 0 ≤ v.2
    · refine hz1 (7 * v.2.toNat + v.1.toNat) (by omega) (Or.inl ⟨by omega, ?_⟩)
      rw [show (((7 * v.2.toNat + v.1.toNat) % 7 : Nat) : Int) = v.1 by omega, show (((7 * v.2.toNat + v.1.toNat) / 7 : Nat) : Int) = v.2 by omega]
      exact hv
    · refine hz1 (7 * (-v.2).toNat + v.1.toNat) (by omega) (Or.inr ⟨by omega, ?_⟩)
      rw [show (((7 * (-v.2).toNat + v.1.toNat) % 7 : Nat) : Int) = v.1 by omega, show -(((7 * (-v.2).toNat + v.1.toNat) / 7 : Nat) : Int) = v.2 by omega]
      exact hv
theorem xr_hasWd {A : xj_H} {ru : Nat} {d : xr_D} (hk : ∀ v ∈ d.2.2.2.2.2.2, xr_okw v) (hR : xr_R A ru d) : fR_hasWeekdays (xj_o ru) A = some (.inl (some (.int (if d.2.2.2.2.2.2 = [] then 0 else 1))), A) := by
  obtain ⟨M, N, E, W, H, G, h1, b1, b2, b3, b4, b5, b6⟩ := hR
  unfold fR_hasWeekdays fR_hasWeekdays_25
  rw [xe_gi h1 rfl, xe_bind, xe_gl h1 rfl, xe_bind, xe_gl h1 rfl, xe_bind]
  by_cases he : d.2.2.2.2.2.2 = []
  · rw [if_pos, if_pos he]; rfl
    rw [xr_cmp, xr_or64, xr_or64, xr_i64]
    refine ⟨⟨(xr_b_z b4).mpr fun k _ => ?_, (xr_bl_z b5).mpr fun k _ => ?_⟩, (xr_bl_z b6).mpr fun k _ => ?_⟩ <;> rw [he] <;> simp
  · rw [if_neg, if_neg he]; rfl
    rw [xr_cmp, xr_or64, xr_or64, xr_i64]
    rintro ⟨⟨hc1, hc2⟩, hc3⟩
    obtain ⟨v, hv⟩ := List.exists_mem_of_ne_nil _ he
    have hb := hk v hv
    unfold xr_okw at hb
    by_cases hv0 : v.2 = 0
    · refine (xr_b_z b4).mp hc1 v.1.toNat (by omega) ?_
      rw [show ((v.1.toNat : Nat) : Int) = v.1 by omega, ← hv0]; exact hv
    · by_cases h0 : 0 ≤ v.2
      · refine (xr_bl_z b5).mp hc2 (7 * v.2.toNat + v.1.toNat) (by omega) ⟨by omega, ?_⟩
        rw [show (((7 * v.2.toNat + v.1.toNat) % 7 : Nat) : Int) = v.1 by omega, show (((7 * v.2.toNat + v.1.toNat) / 7 : Nat) : Int) = v.2 by omega]
        exact hv
      · refine (xr_bl_z b6).mp hc3 (7 * (-v.2).toNat + v.1.toNat) (by omega) ⟨by omega, ?_⟩
        rw [show (((7 * (-v.2).toNat + v.1.toNat) % 7 : Nat) : Int) = v.1 by omega, show -(((7 * (-v.2).toNat + v.1.toNat) / 7 : Nat) : Int) = v.2 by omega]
        exact hv

/-! Sets as bits. -/
def xr_b (M : Int32) (P : Nat → Prop) : Prop := ∀ k, k < 32 → (M.toBitVec.getLsbD k = true ↔ P k)
def xr_bl (M : Int64) (P : Nat → Prop) : Prop := ∀ k, k < 64 → (M.toBitVec.getLsbD k = true ↔ P k)
theorem xr_sh : ∀ j : Fin 32, ((1 : Int32) <<< (xI j.val &&& 31)).toBitVec = BitVec.twoPow 32 j.val := by decide
theorem xr_shl : ∀ j : Fin 64, ((1 : Int64) <<< (Int32.toInt64 (xI j.val) &&& 63)).toBitVec = BitVec.twoPow 64 j.val := by decide
theorem xr_b_1 {j : Nat} (h : j < 32) : xr_b ((1 : Int32) <<< (xI j &&& 31)) (fun k => k = j) := by
  intro k hk
  have := xr_sh ⟨j, h⟩
  simp only at this
  rw [this, BitVec.getLsbD_twoPow]
  simp [h, eq_comm]
theorem xr_bl_1 {j : Nat} (h : j < 64) : xr_bl ((1 : Int64) <<< (Int32.toInt64 (xI j) &&& 63)) (fun k => k = j) := by
  intro k hk
  have := xr_shl ⟨j, h⟩
  simp only at this
  rw [this, BitVec.getLsbD_twoPow]
  simp [h, eq_comm]
theorem xr_b_or {M N : Int32} {P Q : Nat → Prop} (h : xr_b M P) (g : xr_b N Q) : xr_b (M ||| N) (fun k => P k ∨ Q k) := by
  intro k hk
  rw [Int32.toBitVec_or, BitVec.getLsbD_or, Bool.or_eq_true, h k hk, g k hk]
theorem xr_bl_or {M N : Int64} {P Q : Nat → Prop} (h : xr_bl M P) (g : xr_bl N Q) : xr_bl (M ||| N) (fun k => P k ∨ Q k) := by
  intro k hk
  rw [Int64.toBitVec_or, BitVec.getLsbD_or, Bool.or_eq_true, h k hk, g k hk]
theorem xr_b_an {M N : Int32} {P Q : Nat → Prop} (h : xr_b M P) (g : xr_b N Q) : xr_b (M &&& N) (fun k => P k ∧ Q k) := by
  intro k hk
  rw [Int32.toBitVec_and, BitVec.getLsbD_and, Bool.and_eq_true, h k hk, g k hk]
theorem xr_bl_an {M N : Int64} {P Q : Nat → Prop} (h : xr_bl M P) (g : xr_bl N Q) : xr_bl (M &&& N) (fun k => P k ∧ Q k) := by
  intro k hk
  rw [Int64.toBitVec_and, BitVec.getLsbD_and, Bool.and_eq_true, h k hk, g k hk]
theorem xr_b_z {M : Int32} {P : Nat → Prop} (h : xr_b M P) : M = 0 ↔ ∀ k, k < 32 → ¬ P k := by
  constructor
  · rintro rfl k hk hp
    have := (h k hk).mpr hp
    simp at this
  · intro hn
    apply Int32.toBitVec_inj.mp
    apply BitVec.eq_of_getLsbD_eq
    intro k hk
    have h1 := h k hk
    have h2 := hn k hk
    have h3 : M.toBitVec.getLsbD k = false := by
      cases hb : M.toBitVec.getLsbD k with
      | false => rfl
      | true => exact absurd (h1.mp hb) h2
    rw [h3]
    simp
theorem xr_bl_z {M : Int64} {P : Nat → Prop} (h : xr_bl M P) : M = 0 ↔ ∀ k, k < 64 → ¬ P k := by
  constructor
  · rintro rfl k hk hp
    have := (h k hk).mpr hp
    simp at this
  · intro hn
    apply Int64.toBitVec_inj.mp
    apply BitVec.eq_of_getLsbD_eq
    intro k hk
    have h1 := h k hk
    have h2 := hn k hk
    have h3 : M.toBitVec.getLsbD k = false := by
      cases hb : M.toBitVec.getLsbD k with
      | false => rfl
      | true => exact absurd (h1.mp hb) h2
    rw [h3]
    simp
theorem xr_b_0 : xr_b 0 (fun _ => False) := fun k hk => by simp
theorem xr_bl_0 : xr_bl 0 (fun _ => False) := fun k hk => by simp
theorem xr_b_c {M : Int32} {P Q : Nat → Prop} (h : xr_b M P) (hc : ∀ k, k < 32 → (P k ↔ Q k)) : xr_b M Q := fun k hk => (h k hk).trans (hc k hk)
theorem xr_bl_c {M : Int64} {P Q : Nat → Prop} (h : xr_bl M P) (hc : ∀ k, k < 64 → (P k ↔ Q k)) : xr_bl M Q := fun k hk => (h k hk).trans (hc k hk)
theorem xr_b_t {M : Int32} {P : Nat → Prop} (h : xr_b M P) {j : Nat} (hj : j < 32) : (M &&& ((1 : Int32) <<< (xI j &&& 31))) = 0 ↔ ¬ P j := by
  rw [xr_b_z (xr_b_an h (xr_b_1 hj))]
  constructor
  · intro h1 hp; exact h1 j hj ⟨hp, rfl⟩
  · rintro h1 k hk ⟨h2, rfl⟩; exact h1 h2
theorem xr_bl_t {M : Int64} {P : Nat → Prop} (h : xr_bl M P) {j : Nat} (hj : j < 64) : (M &&& ((1 : Int64) <<< (Int32.toInt64 (xI j) &&& 63))) = 0 ↔ ¬ P j := by
  rw [xr_bl_z (xr_bl_an h (xr_bl_1 hj))]
  constructor
  · intro h1 hp; exact h1 j hj ⟨hp, rfl⟩
  · rintro h1 k hk ⟨h2, rfl⟩; exact h1 h2
theorem xr_cmp (a b : Int64) : lg_cmp a b = 0 ↔ a = b := by
  unfold lg_cmp
  constructor
  · intro h
    split at h
    · exact absurd h (by decide)
    · split at h
      · assumption
      · exact absurd h (by decide)
  · rintro rfl
    simp

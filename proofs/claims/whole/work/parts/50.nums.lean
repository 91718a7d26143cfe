/-! Numbers: an Int32 by the integer that it is of. -/
def xI (n : Int) : Int32 := Int32.ofInt n
def xr (n : Int) : Prop := -2147483648 ≤ n ∧ n ≤ 2147483647
theorem xI_toInt {n : Int} (h : xr n) : (xI n).toInt = n := by
  unfold xI
  have h1 := h.1
  have h2 := h.2
  exact Int32.toInt_ofInt_of_le (by omega) (by omega)
theorem xI_of (x : Int32) : x = xI x.toInt := (Int32.ofInt_toInt x).symm
theorem xr_of (x : Int32) : xr x.toInt := by
  have h1 := x.le_toInt
  have h2 := x.toInt_lt
  constructor <;> omega
theorem xI_add (a b : Int) : xI a + xI b = xI (a + b) := (Int32.ofInt_add a b).symm
theorem xI_sub (a b : Int) : xI a - xI b = xI (a - b) := (Int32.ofInt_sub a b).symm
theorem xI_mul (a b : Int) : xI a * xI b = xI (a * b) := (Int32.ofInt_mul a b).symm
theorem xI_neg (a : Int) : -xI a = xI (-a) := (Int32.ofInt_neg a).symm
theorem xI_lt {a b : Int} (ha : xr a) (hb : xr b) : xI a < xI b ↔ a < b := by
  rw [Int32.lt_iff_toInt_lt, xI_toInt ha, xI_toInt hb]
theorem xI_le {a b : Int} (ha : xr a) (hb : xr b) : xI a ≤ xI b ↔ a ≤ b := by
  rw [Int32.le_iff_toInt_le, xI_toInt ha, xI_toInt hb]
theorem xI_eq {a b : Int} (ha : xr a) (hb : xr b) : xI a = xI b ↔ a = b := by
  rw [← Int32.toInt_inj, xI_toInt ha, xI_toInt hb]
theorem xI_nat {a : Int} (ha : xr a) : (xI a).toNatClampNeg = a.toNat := by
  show (xI a).toInt.toNat = a.toNat
  rw [xI_toInt ha]
theorem xI_div {a b : Int} (ha : xr a) (hb : xr b) (h : b ≠ -1) : xI a / xI b = xI (a.tdiv b) := by
  apply Int32.toInt_inj.mp
  have hb1 : xI b ≠ -1 := by
    intro hc
    have : (xI b).toInt = (-1 : Int32).toInt := by rw [hc]
    rw [xI_toInt hb] at this
    exact h this
  rw [Int32.toInt_div_of_ne_right _ _ hb1, xI_toInt ha, xI_toInt hb, xI_toInt]
  have h1 : (a.tdiv b).natAbs ≤ a.natAbs := by
    rw [Int.natAbs_tdiv]; exact Nat.div_le_self _ _
  have h2 := ha.1
  have h3 := ha.2
  by_cases hm : a = -2147483648
  · subst hm
    have : (-2147483648 : Int).tdiv b ≤ 2147483647 := by
      by_cases hz : 0 ≤ b
      · have h7 : (-2147483648 : Int).tdiv b = -((2147483648 : Int).tdiv b) := Int.neg_tdiv ..
        have h8 := Int.tdiv_nonneg (a := 2147483648) (b := b) (by decide) hz
        omega
      · have hb2 : 2 ≤ b.natAbs := by omega
        have h5 : ((-2147483648 : Int).tdiv b).natAbs ≤ 1073741824 := by
          rw [Int.natAbs_tdiv]
          exact Nat.le_trans (Nat.div_le_div_left hb2 (by decide)) (by decide)
        omega
    constructor <;> omega
  · constructor <;> omega
theorem xI_mod {a b : Int} (ha : xr a) (hb : xr b) : xI a % xI b = xI (a.tmod b) := by
  apply Int32.toInt_inj.mp
  rw [Int32.toInt_mod, xI_toInt ha, xI_toInt hb, xI_toInt]
  have h1 : (a.tmod b).natAbs ≤ a.natAbs := by
    rw [Int.natAbs_tmod]; exact Nat.mod_le _ _
  have h2 := ha.1
  have h3 := ha.2
  by_cases hm : a = -2147483648
  · subst hm
    have : (-2147483648 : Int).tmod b ≤ 0 := by
      have := Int.tmod_nonneg b (a := 2147483648) (by decide)
      have h7 : (-2147483648 : Int).tmod b = -((2147483648 : Int).tmod b) := Int.neg_tmod ..
      omega
    constructor <;> omega
  · constructor <;> omega
theorem xI_0 : (0 : Int32) = xI 0 := rfl
theorem xI_1 : (1 : Int32) = xI 1 := rfl
theorem xI_lit (n : Nat) : (Int32.ofNat n) = xI (n : Int) := by
  show Int32.ofNat n = Int32.ofInt (n : Int)
  exact (Int32.ofInt_eq_ofNat).symm
theorem xI_inj {a b : Int} (h : a = b) : xI a = xI b := by rw [h]
theorem xI_divN {a b : Nat} (ha : a ≤ 2147483647) (hb : b ≤ 2147483647) : xI (a : Int) / xI (b : Int) = xI ((a / b : Nat) : Int) := by
  rw [xI_div ⟨by omega, by omega⟩ ⟨by omega, by omega⟩ (by omega)]
  rfl
theorem xI_modN {a b : Nat} (ha : a ≤ 2147483647) (hb : b ≤ 2147483647) : xI (a : Int) % xI (b : Int) = xI ((a % b : Nat) : Int) := by
  rw [xI_mod ⟨by omega, by omega⟩ ⟨by omega, by omega⟩]
  rfl
theorem xI_xor {a b : Int32} (ha : 0 ≤ a.toInt) (hb : 0 ≤ b.toInt) : 0 ≤ a ^^^ b := by
  have hm : ∀ x : Int32, 0 ≤ x.toInt → x.toBitVec.msb = false := fun x hx => by
    rw [BitVec.msb_eq_toInt]
    exact decide_eq_false (by have : x.toBitVec.toInt = x.toInt := rfl; omega)
  have h3 : (a ^^^ b).toBitVec.msb = false := by
    rw [Int32.toBitVec_xor, BitVec.msb_xor, hm a ha, hm b hb]; rfl
  rw [BitVec.msb_eq_toInt] at h3
  have h4 := of_decide_eq_false h3
  rw [Int32.le_iff_toInt_le]
  have h5 : (a ^^^ b).toBitVec.toInt = (a ^^^ b).toInt := rfl
  have h6 : (0 : Int32).toInt = 0 := rfl
  omega
/-! Reading and writing the cells, as equations. -/
theorem xe_gi {A : xj_H} {a ci k : Nat} {fs : List Value} {x : Int32} (h : A.1[a]? = some (.inr (ci, fs))) (hk : fs[k]? = some (.int x)) : xj_gi A (xj_o a) ci k = some x := by
  simp [xj_gi, xj_gv, xj_o, h, hk]
theorem xe_gl {A : xj_H} {a ci k : Nat} {fs : List Value} {x : Int64} (h : A.1[a]? = some (.inr (ci, fs))) (hk : fs[k]? = some (.long x)) : xj_gl A (xj_o a) ci k = some x := by
  simp [xj_gl, xj_gv, xj_o, h, hk]
theorem xe_gr {A : xj_H} {a ci k b : Nat} {fs : List Value} (h : A.1[a]? = some (.inr (ci, fs))) (hk : fs[k]? = some (.ref b)) : xj_gr A (xj_o a) ci k = some (xj_o b) := by
  simp [xj_gr, xj_gv, xj_o, h, hk, xj_vr]
theorem xe_gn {A : xj_H} {a ci k : Nat} {fs : List Value} (h : A.1[a]? = some (.inr (ci, fs))) (hk : fs[k]? = some .null) : xj_gr A (xj_o a) ci k = some none := by
  simp [xj_gr, xj_gv, xj_o, h, hk, xj_vr]
theorem xe_gs {A : xj_H} {a ci k i : Nat} {fs : List Value} (h : A.1[a]? = some (.inr (ci, fs))) (hk : fs[k]? = some (.retAddr i)) : xj_gr A (xj_o a) ci k = some (some (.inr i)) := by
  simp [xj_gr, xj_gv, xj_o, h, hk, xj_vr]
theorem xe_pv {A : xj_H} {a ci k : Nat} {fs : List Value} {v : Value} (h : A.1[a]? = some (.inr (ci, fs))) (hk : k < fs.length) : xj_pv A (xj_o a) ci k v = some (A.1.set a (.inr (ci, fs.set k v)), A.2) := by
  simp [xj_pv, xj_o, h, hk]
theorem xe_pz {A : xj_H} {a ci k : Nat} {fs : List Value} {v : Int32} (hv : v = 0 ∨ v = 1) (h : A.1[a]? = some (.inr (ci, fs))) (hk : k < fs.length) : xj_pz A (xj_o a) ci k v = some (A.1.set a (.inr (ci, fs.set k (.int v))), A.2) := by
  unfold xj_pz
  rw [if_pos hv, xe_pv h hk]
theorem xe_in {i : Int} {n : Nat} (h0 : 0 ≤ i) (h1 : i < n) (hn : n < 2147483648) : ¬ (xI i < 0 ∨ n ≤ (xI i).toNatClampNeg) := by
  have hr : xr i := ⟨by omega, by omega⟩
  rw [xI_nat hr, xI_0, xI_lt hr ⟨by omega, by omega⟩]
  omega
theorem xe_ai {A : xj_H} {a t n : Nat} {f : Nat → Int32} {i : Int} (h : A.1[a]? = some (.inl (t, n, .inl f))) (h0 : 0 ≤ i) (h1 : i < n) (hn : n < 2147483648) : xj_ai A (xj_o a) t (xI i) = some (f i.toNat) := by
  have hc := xe_in h0 h1 hn
  have hr : xr i := ⟨by omega, by omega⟩
  have h9 : xj_ar A (xj_o a) t = some (n, f) := by simp [xj_ar, xj_o, h]
  unfold xj_ai
  rw [h9]
  show (if _ then _ else _) = _
  rw [if_neg hc, xI_nat hr]
theorem xe_as {A : xj_H} {a t n : Nat} {f : Nat → Int32} {i : Int} {x : Int32} (h : A.1[a]? = some (.inl (t, n, .inl f))) (h0 : 0 ≤ i) (h1 : i < n) (hn : n < 2147483648) : xj_as A (xj_o a) t (xI i) x = some (A.1.set a (.inl (t, n, .inl (upd f i.toNat x))), A.2) := by
  have hc := xe_in h0 h1 hn
  have hr : xr i := ⟨by omega, by omega⟩
  have h9 : xj_as A (xj_o a) t (xI i) x = if t = t ∧ ¬ (xI i < 0 ∨ n ≤ (xI i).toNatClampNeg) then some (A.1.set a (.inl (t, n, .inl (upd f (xI i).toNatClampNeg x))), A.2) else none := by
    simp only [xj_as, xj_o, h]
  rw [h9, if_pos ⟨rfl, hc⟩, xI_nat hr]
theorem xe_rq {A : xj_H} {a ci : Nat} {fs : List Value} {F : Option xj_R} (h : A.1[a]? = some (.inr (ci, fs))) : xj_rq A (xj_o a) ci F = F := by
  simp [xj_rq, xj_is, xj_o, h]
theorem xe_mk {A : xj_H} {x : xj_C} {n : Nat} (h1 : 1 ≤ A.2.1) (h2 : n ≤ A.2.2) : xj_mk A x n = some (A.1 ++ [x], A.2.1 - 1, A.2.2 - n) := by
  simp [xj_mk, h1, h2]
theorem xe_bi (v : Int32) (A : xj_H) (K : Int32 → xj_H → Option xj_R) : xj_bi (some (.inl (some (.int v)), A)) K = K v A := rfl
theorem xe_bl (v : Int64) (A : xj_H) (K : Int64 → xj_H → Option xj_R) : xj_bl (some (.inl (some (.long v)), A)) K = K v A := rfl
theorem xe_bv (A : xj_H) (K : xj_H → Option xj_R) : xj_bv (some (.inl none, A)) K = K A := rfl
theorem xe_br (a : Nat) (A : xj_H) (K : xj_Rf → xj_H → Option xj_R) : xj_br (some (.inl (some (xj_rv (xj_o a))), A)) K = K (xj_o a) A := rfl
theorem xe_bind {α β : Type} (x : α) (K : α → Option β) : (some x).bind K = K x := rfl
theorem xe_rz1 (A : xj_H) : xj_rz 1 A = some (.inl (some (.int 1)), A) := rfl
theorem xe_rz0 (A : xj_H) : xj_rz 0 A = some (.inl (some (.int 0)), A) := rfl
theorem xe_set_ne {A : List xj_C} {a b : Nat} {x : xj_C} (h : a ≠ b) : (A.set a x)[b]? = A[b]? := List.getElem?_set_ne h
theorem xe_set_eq {A : List xj_C} {a : Nat} {x y : xj_C} (h : A[a]? = some y) : (A.set a x)[a]? = some x := by
  have : a < A.length := (List.getElem?_eq_some_iff.mp h).1
  simp [this]

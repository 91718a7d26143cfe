/-! A rule's text, read: what both sides read. -/
abbrev xr_D : Type := Option Nat × Int × Int × Option Int × List Int × List Int × List (Int × Int)
def xr_neg (l : List Int) : Bool := match l with
  | c :: _ => c == 45
  | [] => false
def xr_un (l : List Int) : List Int := match l with
  | c :: r => if c = 45 then r else c :: r
  | [] => []
def xr_wd1 (l : List Int) : Option ((Int × Int) × List Int) :=
  if ((xr_sp xr_dg 1 (xr_un l)).1 = [] ∧ xr_neg l = false) ∨ (1 ≤ xr_nv 0 (xr_sp xr_dg 1 (xr_un l)).1 ∧ xr_nv 0 (xr_sp xr_dg 1 (xr_un l)).1 ≤ 5) then
    if 0 ≤ xr_wday (xr_sp xr_dg 1 (xr_un l)).2 then
      some ((xr_wday (xr_sp xr_dg 1 (xr_un l)).2, if xr_neg l = true then -xr_nv 0 (xr_sp xr_dg 1 (xr_un l)).1 else xr_nv 0 (xr_sp xr_dg 1 (xr_un l)).1), (xr_sp xr_dg 1 (xr_un l)).2.drop 2)
    else none
  else none
def xr_nu1 (l : List Int) : Option (Int × List Int) := if xr_num 2 31 (xr_un l) = 0 then none else some (if xr_neg l = true then -xr_num 2 31 (xr_un l) else xr_num 2 31 (xr_un l), (xr_sp xr_dg 2 (xr_un l)).2)
def xr_mo1 (l : List Int) : Option (Int × List Int) := if xr_num 2 12 l = 0 then none else some (xr_num 2 12 l, (xr_sp xr_dg 2 l).2)
def xr_list {α : Type} (one : List Int → Option (α × List Int)) : Nat → List Int → Option (List α × List Int)
  | 0, _ => none
  | k + 1, l => (one l).bind fun v => match v.2 with
    | [] => some ([v.1], [])
    | c :: r => if c = 44 then (xr_list one k r).map (fun q => (v.1 :: q.1, q.2)) else some ([v.1], c :: r)
def xr_freq (l : List Int) : Option (Nat × List Int) :=
  if (xr_sp xr_lt 7 l).1 = xr_w106 then some (0, (xr_sp xr_lt 7 l).2)
  else if (xr_sp xr_lt 7 l).1 = xr_w107 then some (1, (xr_sp xr_lt 7 l).2)
  else if (xr_sp xr_lt 7 l).1 = xr_w108 then some (2, (xr_sp xr_lt 7 l).2)
  else if (xr_sp xr_lt 7 l).1 = xr_w109 then some (3, (xr_sp xr_lt 7 l).2)
  else none
def xr_day (v : Int) : Int := if 2000 ≤ v / 10000 ∧ v / 10000 ≤ 2099 ∧ 1 ≤ v / 100 % 100 ∧ v / 100 % 100 ≤ 12 ∧ 1 ≤ v % 100 ∧ v % 100 ≤ xd_ml (v / 10000 - 2000) (v / 100 % 100) then xd_ms (12 * (v / 10000 - 2000) + v / 100 % 100 - 1) + v % 100 - 1 else -1
def xr_until (l : List Int) : Option (Int × List Int) := if (xr_sp xr_dg 8 l).1.length = 8 ∧ 0 ≤ xr_day (xr_nv 0 (xr_sp xr_dg 8 l).1) then some (xr_day (xr_nv 0 (xr_sp xr_dg 8 l).1), (xr_sp xr_dg 8 l).2) else none
/-- a part, its name read -/
def xr_body (d : xr_D) (w r : List Int) : Option (xr_D × List Int) :=
  if w = [70, 82, 69, 81] then if d.1.isSome = true then none else (xr_freq r).map fun q => ((some q.1, d.2), q.2)
  else if w = [73, 78, 84, 69, 82, 86, 65, 76] then if d.2.1 ≠ 0 then none else if xr_num 2 99 r = 0 then none else some ((d.1, xr_num 2 99 r, d.2.2), (xr_sp xr_dg 2 r).2)
  else if w = [67, 79, 85, 78, 84] then if d.2.2.1 ≠ 0 then none else if xr_num 3 200 r = 0 then none else some ((d.1, d.2.1, xr_num 3 200 r, d.2.2.2), (xr_sp xr_dg 3 r).2)
  else if w = [85, 78, 84, 73, 76] then if d.2.2.2.1.isSome = true then none else (xr_until r).map fun q => ((d.1, d.2.1, d.2.2.1, some q.1, d.2.2.2.2), q.2)
  else if w = [66, 89, 68, 65, 89] then if d.2.2.2.2.2.2 ≠ [] then none else (xr_list xr_wd1 7 r).map fun q => ((d.1, d.2.1, d.2.2.1, d.2.2.2.1, d.2.2.2.2.1, d.2.2.2.2.2.1, q.1), q.2)
  else if w = [66, 89, 77, 79, 78, 84, 72, 68, 65, 89] then if d.2.2.2.2.2.1 ≠ [] then none else (xr_list xr_nu1 8 r).map fun q => ((d.1, d.2.1, d.2.2.1, d.2.2.2.1, d.2.2.2.2.1, q.1, d.2.2.2.2.2.2), q.2)
  else if w = [66, 89, 77, 79, 78, 84, 72] then if d.2.2.2.2.1 ≠ [] then none else (xr_list xr_mo1 8 r).map fun q => ((d.1, d.2.1, d.2.2.1, d.2.2.2.1, q.1, d.2.2.2.2.2), q.2)
  else none
def xr_part (d : xr_D) (l : List Int) : Option (xr_D × List Int) := match (xr_sp xr_lt 10 l).2 with
  | [] => none
  | c :: r => if c = 61 then xr_body d (xr_sp xr_lt 10 l).1 r else none
def xr_al (d : xr_D) : Prop := d.1.isSome = true ∧ ¬ (d.2.2.1 ≠ 0 ∧ d.2.2.2.1.isSome = true) ∧ ¬ (d.1 = some 1 ∧ d.2.2.2.2.2.1 ≠ []) ∧ (d.1 = some 2 ∨ d.1 = some 3 ∨ ∀ v ∈ d.2.2.2.2.2.2, v.2 = 0)
/-- the rule that a text is; k parts at most -/
def xr_rule : Nat → xr_D → List Int → Option xr_D
  | 0, _, _ => none
  | k + 1, d, l => (xr_part d l).bind fun q => match q.2 with
    | [] => some q.1
    | c :: r => if c = 59 then xr_rule k q.1 r else none
theorem xr_sp_w {p : Int → Bool} : ∀ {w r : List Int} {k : Nat}, (∀ c ∈ w, p c = true) → w.length ≤ k → xr_sp p k (w ++ r) = (w ++ (xr_sp p (k - w.length) r).1, (xr_sp p (k - w.length) r).2)
  | [], r, k, _, _ => by simp
  | c :: w, r, 0, _, h => by simp at h
  | c :: w, r, k + 1, h1, h2 => by
    have h3 := xr_sp_w (p := p) (w := w) (r := r) (k := k) (fun d hd => h1 d (List.mem_cons_of_mem _ hd)) (by simp at h2; omega)
    rw [List.cons_append, xr_sp, if_pos (h1 c List.mem_cons_self), h3]
    simp
theorem xr_sp_n {p : Int → Bool} {k : Nat} {l : List Int} (h : ∀ c r, l = c :: r → p c = false) : xr_sp p k l = ([], l) := by
  match k, l, h with
  | 0, l, _ => rfl
  | k + 1, [], _ => rfl
  | k + 1, c :: r, h => rw [xr_sp, if_neg (by rw [h c r rfl]; decide)]
/-- a name and '=' stand there just where the letters there are the name, and '=' behind them -/
theorem xr_nm {w l : List Int} (hw : ∀ c ∈ w, xr_lt c = true) (hl : w.length ≤ 10) (r : List Int) : l = (w ++ [61]) ++ r ↔ (xr_sp xr_lt 10 l).1 = w ∧ (xr_sp xr_lt 10 l).2 = 61 :: r := by
  constructor
  · rintro rfl
    rw [List.append_assoc, xr_sp_w hw hl, xr_sp_n (fun c r h => by cases h; decide)]
    simp
  · rintro ⟨h1, h2⟩
    have := xr_sp_a (p := xr_lt) 10 l
    rw [h1, h2] at this
    rw [← this]
    simp
/-! Bounds. -/
theorem xr_nvb : ∀ {w : List Int} {v : Int}, (∀ c ∈ w, xr_dg c = true) → 0 ≤ v → 0 ≤ xr_nv v w
  | [], v, _, h => h
  | c :: w, v, h1, h => by
    have hc : 48 ≤ c ∧ c ≤ 57 := by simpa [xr_dg] using h1 c List.mem_cons_self
    exact xr_nvb (w := w) (fun d hd => h1 d (List.mem_cons_of_mem _ hd)) (by omega)
theorem xr_num_b {k : Nat} {hi : Int} (h : 0 ≤ hi) (l : List Int) : 0 ≤ xr_num k hi l ∧ xr_num k hi l ≤ hi := by
  have := xr_nvb (v := 0) (xr_sp_p (p := xr_dg) k l).1 (by omega)
  unfold xr_num
  split <;> omega
theorem xr_wday_b (l : List Int) : -1 ≤ xr_wday l ∧ xr_wday l ≤ 6 := by
  unfold xr_wday
  split
  · exact xr_wi_b
  · omega
def xr_okw (v : Int × Int) : Prop := 0 ≤ v.1 ∧ v.1 ≤ 6 ∧ -5 ≤ v.2 ∧ v.2 ≤ 5
def xr_oku (v : Int) : Prop := -31 ≤ v ∧ v ≤ 31 ∧ v ≠ 0
def xr_okm (v : Int) : Prop := 1 ≤ v ∧ v ≤ 12
/-- what every rule that is read keeps -/
def xr_ok (d : xr_D) : Prop := (∀ k, d.1 = some k → k < 4) ∧ 0 ≤ d.2.1 ∧ d.2.1 ≤ 99 ∧ 0 ≤ d.2.2.1 ∧ d.2.2.1 ≤ 200 ∧ (∀ u, d.2.2.2.1 = some u → 0 ≤ u ∧ u ≤ 36524) ∧ (∀ v ∈ d.2.2.2.2.1, xr_okm v) ∧ (∀ v ∈ d.2.2.2.2.2.1, xr_oku v) ∧ (∀ v ∈ d.2.2.2.2.2.2, xr_okw v)
theorem xr_wd1_b {l : List Int} {v : Int × Int} {r : List Int} (h : xr_wd1 l = some (v, r)) : xr_okw v := by
  unfold xr_wd1 at h
  have hb := xr_wday_b (xr_sp xr_dg 1 (xr_un l)).2
  split at h
  · split at h
    · cases h
      rename_i h1 h2
      have h3 : 0 ≤ xr_nv 0 (xr_sp xr_dg 1 (xr_un l)).1 ∧ xr_nv 0 (xr_sp xr_dg 1 (xr_un l)).1 ≤ 5 := by
        rcases h1 with ⟨h1, _⟩ | h1
        · rw [h1]; decide
        · omega
      refine ⟨h2, hb.2, ?_, ?_⟩ <;> simp only <;> split <;> omega
    · cases h
  · cases h
theorem xr_nu1_b {l : List Int} {v : Int} {r : List Int} (h : xr_nu1 l = some (v, r)) : xr_oku v := by
  unfold xr_nu1 at h
  have hb := xr_num_b (k := 2) (hi := 31) (by omega) (xr_un l)
  split at h
  · cases h
  · cases h
    unfold xr_oku
    split <;> omega
theorem xr_mo1_b {l : List Int} {v : Int} {r : List Int} (h : xr_mo1 l = some (v, r)) : xr_okm v := by
  unfold xr_mo1 at h
  have hb := xr_num_b (k := 2) (hi := 12) (by omega) l
  split at h
  · cases h
  · cases h
    unfold xr_okm
    omega
theorem xr_day_b {v : Int} (h : 0 ≤ xr_day v) : xr_day v ≤ 36524 := by
  unfold xr_day at h ⊢
  split
  · rename_i h1
    have h2 := xd_step (y := v / 10000 - 2000) (m := v / 100 % 100) (by omega) (by omega) (by omega)
    have h3 := xd_mono' (m := 12 * (v / 10000 - 2000) + v / 100 % 100) (n := 1200) (by omega) (by omega)
    have h4 := xz_1200
    omega
  · omega

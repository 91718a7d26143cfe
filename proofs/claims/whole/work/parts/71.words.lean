/-! The words of the rule reader. -/
def xr_S (s : Nat) (w : List Int) : Prop := (∀ F, xj_zq (some (.inr s)) F = F) ∧ ∀ A, fK_length (some (.inr s)) A = some (.inl (some (.int (xI w.length))), A) ∧ ∀ (k : Nat) c, w[k]? = some c → fK_charAt (some (.inr s)) (xI k) A = some (.inl (some (.int (xI c))), A)
def xr_w105 : List Int := [70, 82, 69, 81, 61]
theorem xr_s105 : xr_S 105 xr_w105 := by
  refine ⟨fun F => rfl, fun A => ⟨rfl, fun k c h => ?_⟩⟩
  match k, h with
  | 0, h => cases h; rfl
  | 1, h => cases h; rfl
  | 2, h => cases h; rfl
  | 3, h => cases h; rfl
  | 4, h => cases h; rfl
  | k + 5, h => simp [xr_w105] at h
def xr_w106 : List Int := [68, 65, 73, 76, 89]
theorem xr_s106 : xr_S 106 xr_w106 := by
  refine ⟨fun F => rfl, fun A => ⟨rfl, fun k c h => ?_⟩⟩
  match k, h with
  | 0, h => cases h; rfl
  | 1, h => cases h; rfl
  | 2, h => cases h; rfl
  | 3, h => cases h; rfl
  | 4, h => cases h; rfl
  | k + 5, h => simp [xr_w106] at h
def xr_w107 : List Int := [87, 69, 69, 75, 76, 89]
theorem xr_s107 : xr_S 107 xr_w107 := by
  refine ⟨fun F => rfl, fun A => ⟨rfl, fun k c h => ?_⟩⟩
  match k, h with
  | 0, h => cases h; rfl
  | 1, h => cases h; rfl
  | 2, h => cases h; rfl
  | 3, h => cases h; rfl
  | 4, h => cases h; rfl
  | 5, h => cases h; rfl
  | k + 6, h => simp [xr_w107] at h
def xr_w108 : List Int := [77, 79, 78, 84, 72, 76, 89]
theorem xr_s108 : xr_S 108 xr_w108 := by
  refine ⟨fun F => rfl, fun A => ⟨rfl, fun k c h => ?_⟩⟩
  match k, h with
  | 0, h => cases h; rfl
  | 1, h => cases h; rfl
  | 2, h => cases h; rfl
  | 3, h => cases h; rfl
  | 4, h => cases h; rfl
  | 5, h => cases h; rfl
  | 6, h => cases h; rfl
  | k + 7, h => simp [xr_w108] at h
def xr_w109 : List Int := [89, 69, 65, 82, 76, 89]
theorem xr_s109 : xr_S 109 xr_w109 := by
  refine ⟨fun F => rfl, fun A => ⟨rfl, fun k c h => ?_⟩⟩
  match k, h with
  | 0, h => cases h; rfl
  | 1, h => cases h; rfl
  | 2, h => cases h; rfl
  | 3, h => cases h; rfl
  | 4, h => cases h; rfl
  | 5, h => cases h; rfl
  | k + 6, h => simp [xr_w109] at h
def xr_w110 : List Int := [73, 78, 84, 69, 82, 86, 65, 76, 61]
theorem xr_s110 : xr_S 110 xr_w110 := by
  refine ⟨fun F => rfl, fun A => ⟨rfl, fun k c h => ?_⟩⟩
  match k, h with
  | 0, h => cases h; rfl
  | 1, h => cases h; rfl
  | 2, h => cases h; rfl
  | 3, h => cases h; rfl
  | 4, h => cases h; rfl
  | 5, h => cases h; rfl
  | 6, h => cases h; rfl
  | 7, h => cases h; rfl
  | 8, h => cases h; rfl
  | k + 9, h => simp [xr_w110] at h
def xr_w111 : List Int := [67, 79, 85, 78, 84, 61]
theorem xr_s111 : xr_S 111 xr_w111 := by
  refine ⟨fun F => rfl, fun A => ⟨rfl, fun k c h => ?_⟩⟩
  match k, h with
  | 0, h => cases h; rfl
  | 1, h => cases h; rfl
  | 2, h => cases h; rfl
  | 3, h => cases h; rfl
  | 4, h => cases h; rfl
  | 5, h => cases h; rfl
  | k + 6, h => simp [xr_w111] at h
def xr_w112 : List Int := [85, 78, 84, 73, 76, 61]
theorem xr_s112 : xr_S 112 xr_w112 := by
  refine ⟨fun F => rfl, fun A => ⟨rfl, fun k c h => ?_⟩⟩
  match k, h with
  | 0, h => cases h; rfl
  | 1, h => cases h; rfl
  | 2, h => cases h; rfl
  | 3, h => cases h; rfl
  | 4, h => cases h; rfl
  | 5, h => cases h; rfl
  | k + 6, h => simp [xr_w112] at h
def xr_w113 : List Int := [66, 89, 68, 65, 89, 61]
theorem xr_s113 : xr_S 113 xr_w113 := by
  refine ⟨fun F => rfl, fun A => ⟨rfl, fun k c h => ?_⟩⟩
  match k, h with
  | 0, h => cases h; rfl
  | 1, h => cases h; rfl
  | 2, h => cases h; rfl
  | 3, h => cases h; rfl
  | 4, h => cases h; rfl
  | 5, h => cases h; rfl
  | k + 6, h => simp [xr_w113] at h
def xr_w114 : List Int := [77, 79, 84, 85, 87, 69, 84, 72, 70, 82, 83, 65, 83, 85]
theorem xr_s114 : xr_S 114 xr_w114 := by
  refine ⟨fun F => rfl, fun A => ⟨rfl, fun k c h => ?_⟩⟩
  match k, h with
  | 0, h => cases h; rfl
  | 1, h => cases h; rfl
  | 2, h => cases h; rfl
  | 3, h => cases h; rfl
  | 4, h => cases h; rfl
  | 5, h => cases h; rfl
  | 6, h => cases h; rfl
  | 7, h => cases h; rfl
  | 8, h => cases h; rfl
  | 9, h => cases h; rfl
  | 10, h => cases h; rfl
  | 11, h => cases h; rfl
  | 12, h => cases h; rfl
  | 13, h => cases h; rfl
  | k + 14, h => simp [xr_w114] at h
def xr_w115 : List Int := [66, 89, 77, 79, 78, 84, 72, 68, 65, 89, 61]
theorem xr_s115 : xr_S 115 xr_w115 := by
  refine ⟨fun F => rfl, fun A => ⟨rfl, fun k c h => ?_⟩⟩
  match k, h with
  | 0, h => cases h; rfl
  | 1, h => cases h; rfl
  | 2, h => cases h; rfl
  | 3, h => cases h; rfl
  | 4, h => cases h; rfl
  | 5, h => cases h; rfl
  | 6, h => cases h; rfl
  | 7, h => cases h; rfl
  | 8, h => cases h; rfl
  | 9, h => cases h; rfl
  | 10, h => cases h; rfl
  | k + 11, h => simp [xr_w115] at h
def xr_w116 : List Int := [66, 89, 77, 79, 78, 84, 72, 61]
theorem xr_s116 : xr_S 116 xr_w116 := by
  refine ⟨fun F => rfl, fun A => ⟨rfl, fun k c h => ?_⟩⟩
  match k, h with
  | 0, h => cases h; rfl
  | 1, h => cases h; rfl
  | 2, h => cases h; rfl
  | 3, h => cases h; rfl
  | 4, h => cases h; rfl
  | 5, h => cases h; rfl
  | 6, h => cases h; rfl
  | 7, h => cases h; rfl
  | k + 8, h => simp [xr_w116] at h

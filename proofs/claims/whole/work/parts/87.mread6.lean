/-! The reference reads the rule. -/
theorem xr_b_e {M N : Int32} {P Q : Nat → Prop} (h : xr_b M P) (g : xr_b N Q) : M = N ↔ ∀ k, k < 32 → (P k ↔ Q k) := by
  constructor
  · rintro rfl k hk
    exact (h k hk).symm.trans (g k hk)
  · intro hn
    apply Int32.toBitVec_inj.mp
    apply BitVec.eq_of_getLsbD_eq
    intro k hk
    have h1 := h k hk
    have h2 := g k hk
    have h3 := hn k hk
    cases hb : M.toBitVec.getLsbD k with
    | false =>
      cases hc : N.toBitVec.getLsbD k with
      | false => rfl
      | true => rw [h1.mpr (h3.mpr (h2.mp hc))] at hb; cases hb
    | true => exact (h2.mpr (h3.mp (h1.mp hb))).symm
def xr_hp (d : xr_D) (k : Nat) : Prop := xr_hs d k = true
theorem xr_v1 {M : Int32} {P : Nat → Prop} (h : xr_b M P) : (M &&& (1 : Int32)) = (1 : Int32) ↔ P 0 := by
  have e1 : xr_b (1 : Int32) (fun k => k = 0) := xr_b_1 (j := 0) (by decide)
  rw [xr_b_e (xr_b_an h e1) e1]
  constructor
  · intro h1; exact ((h1 0 (by decide)).mpr rfl).1
  · intro h1 k hk
    exact ⟨fun h => h.2, fun h => ⟨h ▸ h1, h⟩⟩
theorem xr_v12 {M : Int32} {P : Nat → Prop} (h : xr_b M P) : (M &&& (12 : Int32)) = (12 : Int32) ↔ P 2 ∧ P 3 := by
  have e1 : xr_b (12 : Int32) (fun k => k = 2 ∨ k = 3) := xr_b_or (xr_b_1 (j := 2) (by decide)) (xr_b_1 (j := 3) (by decide))
  rw [xr_b_e (xr_b_an h e1) e1]
  constructor
  · intro h1; exact ⟨((h1 2 (by decide)).mpr (Or.inl rfl)).1, ((h1 3 (by decide)).mpr (Or.inr rfl)).1⟩
  · rintro ⟨h2, h3⟩ k hk
    refine ⟨fun h => h.2, fun h => ⟨?_, h⟩⟩
    rcases h with rfl | rfl
    · exact h2
    · exact h3
theorem xr_v32 {M : Int32} {P : Nat → Prop} (h : xr_b M P) : (M &&& (32 : Int32)) = 0 ↔ ¬ P 5 := xr_b_t h (j := 5) (by decide)
/-- the end of the reference's reading -/
theorem xr_m117 {p0 : Nat → Value} {n i : Nat} {T : Nat → Int} {d : xr_D} {A : xj_H} {l : List Int} {M : Int32} (hM : xr_M p0 A n i T d l) (hok : xr_ok d) (hb : xr_b M (xr_hp d)) : ∀ (z k : Nat) (b : Int32), k ≤ d.2.2.2.2.2.2.length → d.2.2.2.2.2.2.length - k < z → ((b = 1 ∧ ∀ v ∈ d.2.2.2.2.2.2.take k, v.2 = 0) ∨ (b = 0 ∧ ¬ ∀ v ∈ d.2.2.2.2.2.2.take k, v.2 = 0)) →
    (l = [] ∧ xr_al d ∧ fM_readRule_117 z (xj_o 34) M b (xI k) A = some (.inl (some (.int 1)), A)) ∨ (¬ (l = [] ∧ xr_al d) ∧ fM_readRule_117 z (xj_o 34) M b (xI k) A = some (.inl (some (.int 0)), A))
  | 0, k, b, _, h, _ => by omega
  | z + 1, k, b, hk, hz, hbb => by
    have ih := xr_m117 hM hok hb z (k + 1)
    obtain ⟨⟨p, h1, h2, h3⟩, h4, h5, h6, ⟨a1, ⟨f, f1, f2⟩, ⟨g, g1, g2⟩, ⟨e, e1, e2⟩, l1, l2⟩, h8⟩ := hM
    have hi := h8.1
    have e2' : p 2 = .int (xI n) := (h2.2 2 (by decide)).trans h4
    rw [fM_readRule_117, xk_gi h1 h3.2.2.2.2.2.2.2 (by decide), xe_bind, xq_le (by omega) (by omega) (by omega) (by omega)]
    by_cases hc : ((d.2.2.2.2.2.2.length : Nat) : Int) ≤ k
    · rw [if_pos hc, xk_gi h1 h3.1 (by decide), xe_bind, xk_gi h1 e2' (by decide), xe_bind, xq_ne (by omega) (by omega) (by omega) (by omega)]
      have htk : d.2.2.2.2.2.2.take k = d.2.2.2.2.2.2 := List.take_of_length_le (by omega)
      rw [htk] at hbb
      by_cases hl : l = []
      · rw [hl] at hi; simp at hi
        have hr0 : fM_readRule_210 A = some (.inl (some (.int 0)), A) := rfl
        have hr1 : fM_readRule_206 A = some (.inl (some (.int 1)), A) := rfl
        have hf15 := xk_gi h1 h3.2.1 (by decide)
        rw [if_pos (by omega), hr0]
        by_cases c0 : d.1.isSome = true
        · obtain ⟨q, hq⟩ := Option.isSome_iff_exists.mp c0
          have hq4 := hok.1 q hq
          have hfq : xr_fq d.1 = (q : Int) + 1 := by rw [hq]; rfl
          rw [if_neg (fun h => h ((xr_v1 hb).mpr c0))]
          by_cases c1 : d.2.2.1 ≠ 0 ∧ d.2.2.2.1.isSome = true
          · rw [if_pos ((xr_v12 hb).mpr ⟨decide_eq_true c1.1, c1.2⟩)]
            exact Or.inr ⟨fun h => h.2.2.1 c1, rfl⟩
          · rw [if_neg (fun h => c1 ⟨of_decide_eq_true ((xr_v12 hb).mp h).1, ((xr_v12 hb).mp h).2⟩)]
            have h191 : (q = 2 ∨ q = 3 ∨ ∀ v ∈ d.2.2.2.2.2.2, v.2 = 0) → (l = [] ∧ xr_al d ∧ fM_readRule_191 (xj_o 34) M A = some (.inl (some (.int 1)), A)) ∨ (¬ (l = [] ∧ xr_al d) ∧ fM_readRule_191 (xj_o 34) M A = some (.inl (some (.int 0)), A)) := by
              intro hor
              have hor' : d.1 = some 2 ∨ d.1 = some 3 ∨ ∀ v ∈ d.2.2.2.2.2.2, v.2 = 0 := by
                rcases hor with h | h | h
                · exact Or.inl (by rw [hq, h])
                · exact Or.inr (Or.inl (by rw [hq, h]))
                · exact Or.inr (Or.inr h)
              unfold fM_readRule_191
              rw [hf15, xe_bind, hfq, xl_2, xq_ne (by omega) (by omega) (by omega) (by omega), hr0, hr1]
              by_cases q1 : q = 1
              · rw [if_pos (by omega)]
                by_cases c5 : d.2.2.2.2.2.1 ≠ []
                · rw [if_pos (fun h => (xr_v32 hb).mp h (decide_eq_true c5))]
                  exact Or.inr ⟨fun h => h.2.2.2.1 ⟨by rw [hq, q1], c5⟩, rfl⟩
                · rw [if_neg (fun h => h ((xr_v32 hb).mpr fun h => c5 (of_decide_eq_true h)))]
                  exact Or.inl ⟨hl, ⟨c0, c1, fun h => c5 h.2, hor'⟩, rfl⟩
              · rw [if_neg (by omega)]
                exact Or.inl ⟨hl, ⟨c0, c1, fun h => q1 (by rw [hq] at h; exact Option.some.inj h.1), hor'⟩, rfl⟩
            rcases hbb with ⟨rfl, hall⟩ | ⟨rfl, hall⟩
            · rw [xk_n1]
              exact h191 (Or.inr (Or.inr hall))
            · rw [xk_n0, hf15, xe_bind, hfq, xl_2, xq_le (by omega) (by omega) (by omega) (by omega)]
              by_cases c2 : (q : Int) + 1 ≤ 2
              · rw [if_pos c2]
                refine Or.inr ⟨fun h => ?_, rfl⟩
                rcases h.2.2.2.2 with h | h | h
                · rw [hq] at h; have := Option.some.inj h; omega
                · rw [hq] at h; have := Option.some.inj h; omega
                · exact hall h
              · rw [if_neg c2]
                exact h191 (by omega)
        · rw [if_pos (fun h => c0 ((xr_v1 hb).mp h))]
          exact Or.inr ⟨fun h => c0 h.2.1, rfl⟩
      · have : l.length ≠ 0 := fun h => hl (List.length_eq_zero_iff.mp h)
        rw [if_neg (by omega)]
        exact Or.inr ⟨fun h => hl h.1, rfl⟩
    · rw [if_neg hc]
      have hkl : k < d.2.2.2.2.2.2.length := by omega
      have hkk : d.2.2.2.2.2.2[k]? = some d.2.2.2.2.2.2[k] := List.getElem?_eq_getElem hkl
      have ht : d.2.2.2.2.2.2.take (k + 1) = d.2.2.2.2.2.2.take k ++ [d.2.2.2.2.2.2[k]] := by
        rw [List.take_add_one, hkk]; rfl
      have hmap : (d.2.2.2.2.2.2.map (fun v => v.2))[k]? = some (d.2.2.2.2.2.2[k]).2 := by
        rw [List.getElem?_map, hkk]; rfl
      have hval := e2 k _ hmap
      have hrng := hok.2.2.2.2.2.2.2.2 _ (List.mem_of_getElem? hkk)
      unfold xr_okw at hrng
      unfold fM_readRule_144 fM_readRule_145
      rw [xl_1, xI_add, ← xl_1]
      rw [show ((k + 1 : Nat) : Int) = (k : Int) + 1 from rfl] at ih
      rcases hbb with ⟨rfl, hall⟩ | ⟨rfl, hall⟩
      · rw [xk_b1, xm_gr 47 h1 h2.1 (by decide) (by decide), xe_bind, xk_ai e1 (by omega) (by omega) (by omega), xe_bind, Int.toNat_natCast, hval, xl_0, xq_ne (by omega) (by omega) (by omega) (by omega), ← xl_0]
        by_cases hv : (d.2.2.2.2.2.2[k]).2 = 0
        · rw [if_pos hv]
          refine ih 1 (by omega) (by omega) (Or.inl ⟨rfl, fun v hv' => ?_⟩)
          rw [ht, List.mem_append] at hv'
          rcases hv' with hv' | hv'
          · exact hall v hv'
          · rw [List.mem_singleton] at hv'; rw [hv']; exact hv
        · rw [if_neg hv]
          refine ih 0 (by omega) (by omega) (Or.inr ⟨rfl, fun h => hv (h (d.2.2.2.2.2.2[k]) ?_)⟩)
          rw [ht]; exact List.mem_append_right _ (List.mem_singleton.mpr rfl)
      · rw [xk_b0]
        refine ih 0 (by omega) (by omega) (Or.inr ⟨rfl, fun h => hall fun v hv => h v ?_⟩)
        rw [ht]; exact List.mem_append_left _ hv
def xr_ct (d : xr_D) : Nat := (xr_hs d 0).toNat + (xr_hs d 1).toNat + (xr_hs d 2).toNat + (xr_hs d 3).toNat + (xr_hs d 4).toNat + (xr_hs d 5).toNat + (xr_hs d 6).toNat
theorem xr_ct1 {d d' : xr_D} {k : Nat} (hk : k < 7) (h : xr_hs d k = false) (hj : ∀ j, xr_hs d' j = (xr_hs d j || j == k)) : xr_ct d' = xr_ct d + 1 := by
  unfold xr_ct
  rw [hj 0, hj 1, hj 2, hj 3, hj 4, hj 5, hj 6]
  rcases xr_07 hk with rfl | rfl | rfl | rfl | rfl | rfl | rfl <;> simp [h] <;> omega
theorem xr_ct7 (d : xr_D) : xr_ct d ≤ 7 := by
  unfold xr_ct
  have h := fun b : Bool => Bool.toNat_le b
  have h0 := h (xr_hs d 0)
  have h1 := h (xr_hs d 1)
  have h2 := h (xr_hs d 2)
  have h3 := h (xr_hs d 3)
  have h4 := h (xr_hs d 4)
  have h5 := h (xr_hs d 5)
  have h6 := h (xr_hs d 6)
  omega
theorem xr_bt0 {k : Nat} (h : k < 7) : ¬ xr_bt k = 0 := by
  rcases xr_07 h with rfl | rfl | rfl | rfl | rfl | rfl | rfl <;> decide
theorem xr_m77 {p0 : Nat → Value} {n : Nat} {T : Nat → Int} : ∀ (m z i : Nat) (M : Int32) (A : xj_H) (d : xr_D) (l : List Int), xr_ct d + m = 7 → m + 1 < z → xr_ok d → xr_b M (xr_hp d) → xr_M p0 A n i T d l →
    (∃ d' B j, xr_rule m d l = some d' ∧ xr_al d' ∧ fM_readRule_77 z (xj_o 34) M 1 A = some (.inl (some (.int 1)), B) ∧ xr_MU A B ∧ xr_M p0 B n j T d' [] ∧ xr_ok d') ∨
    ((∀ d', xr_rule m d l = some d' → ¬ xr_al d') ∧ ∃ B, fM_readRule_77 z (xj_o 34) M 1 A = some (.inl (some (.int 0)), B) ∧ xr_MU A B ∧ xr_G p0 B)
  | m, 0, _, _, _, _, _, _, h, _, _, _ => by omega
  | m, z + 1, i, M, A, d, l, hm, hz, hok, hb, hM => by
    rw [fM_readRule_77, xk_b1, xr_Mrq hM]
    rcases xr_mpt hM with ⟨d', r, B, j, k, h1, b1, b2, b3, hk, hs, hj⟩ | ⟨h1, B, x, b1, b2, b3, b4⟩
    · have hct := xr_ct1 hk hs hj
      have hct7 := xr_ct7 d'
      obtain ⟨m, rfl⟩ : ∃ q, m = q + 1 := ⟨m - 1, by omega⟩
      have hok' := xr_part_ok hok h1
      have hb' : xr_b (M ||| xr_bt k) (xr_hp d') := xr_b_c (xr_b_or hb (xr_b_1 (j := k) (by omega))) fun q _ => by
        unfold xr_hp
        rw [hj q, Bool.or_eq_true, beq_iff_eq]
      obtain ⟨C, j', r', c1, c2, c3, c4⟩ := xr_mtk b3 (c := 59) (by omega) (by omega)
      have hu : xr_MU A C := xk_t b2 (xr_MU34 c2)
      have hno : (M &&& xr_bt k) = 0 := (xr_b_t hb (j := k) (by omega)).mpr (by unfold xr_hp; rw [hs]; decide)
      rw [b1, xe_bi, if_neg (xr_bt0 hk), if_pos hno, xr_Mrq b3, xl_59, c1, xe_bi, xr_rule, h1, Option.bind_some]
      rcases c4 with ⟨e1, rfl⟩ | ⟨e1, rfl, e3⟩
      · rw [if_pos e1]
        simp only [if_true]
        rcases xr_m77 m z j' (M ||| xr_bt k) C d' r' (by omega) (by omega) hok' hb' c3 with ⟨d2, D, q, g1, g2, g3, g4, g5, g6⟩ | ⟨g1, D, g2, g3, g4⟩
        · exact Or.inl ⟨d2, D, q, g1, g2, g3, xk_t hu g4, g5, g6⟩
        · exact Or.inr ⟨g1, D, g2, xk_t hu g3, g4⟩
      · rw [if_neg e1]
        obtain ⟨y, rfl⟩ : ∃ y, z = y + 1 := ⟨z - 1, by omega⟩
        rw [fM_readRule_77, xk_b0]
        have := xr_m117 c3 hok' hb' xj_fu 0 1 (by omega) (by have := c3.2.2.2.2.1.2.2.2.2.2; unfold xj_fu; omega) (Or.inl ⟨rfl, fun v hv => by simp at hv⟩)
        rw [show ((0 : Nat) : Int) = 0 from rfl, ← xl_0] at this
        match r', c3, e1, e3, this with
        | [], c3, e1, e3, this =>
          rcases this with ⟨_, g2, g3⟩ | ⟨g2, g3⟩
          · exact Or.inl ⟨d', C, j', rfl, g2, g3, hu, c3, hok'⟩
          · exact Or.inr ⟨fun d2 h => by cases h; exact fun h => g2 ⟨rfl, h⟩, C, g3, hu, xr_MG c3⟩
        | c :: r', c3, e1, e3, this =>
          rcases this with ⟨g1, g2, g3⟩ | ⟨g2, g3⟩
          · cases g1
          · refine Or.inr ⟨fun d2 h => ?_, C, g3, hu, xr_MG c3⟩
            simp only at h
            rw [if_neg (fun h => e3 r' (by rw [h]))] at h
            cases h
    · have hr : xr_rule m d l = none := by
        match m with
        | 0 => rfl
        | m + 1 => rw [xr_rule, h1]; rfl
      rw [b1, xe_bi, hr]
      refine Or.inr ⟨fun d2 h => (by cases h), B, ?_, b2, b3⟩
      rcases b4 with rfl | ⟨k, hk, rfl, hs⟩
      · rw [xk_b0]; rfl
      · rw [if_neg (xr_bt0 hk), if_neg (show ¬ (M &&& xr_bt k) = 0 from fun h => (xr_b_t hb (j := k) (by omega)).mp h hs)]; rfl
/-! The whole reading. -/
theorem xr_G44 {p0 : Nat → Value} {A B : xj_H} (h : xr_G p0 A) (u : xk_u (fun k => k = 34) A B) {p : Nat → Value} (hp : xk_o B 34 7 36 p) (hM : xr_Mo p0 p) : xr_G p0 B := by
  obtain ⟨_, ⟨f1, g1⟩, ⟨f2, g2⟩, ⟨f3, g3⟩, ⟨f4, g4⟩⟩ := h
  exact ⟨⟨p, hp, hM⟩, ⟨f1, xk_au g1 u (by decide)⟩, ⟨f2, xk_au g2 u (by decide)⟩, ⟨f3, xk_au g3 u (by decide)⟩, ⟨f4, xk_au g4 u (by decide)⟩⟩
theorem xr_m35 {p0 : Nat → Value} {n : Nat} {T : Nat → Int} {l : List Int} (hn : n ≤ 60) (hp2 : p0 2 = .int (xI n)) (hl : xr_at T n 0 l) :
    ∀ (z k : Nat) (A : xj_H) (p : Nat → Value) (f : Nat → Int), k ≤ 13 → 13 - k < z → xk_a A 0 35 60 T → xk_o A 34 7 36 p → xr_Mo p0 p → p 14 = .int (xI 0) → p 15 = .int (xI 0) → p 16 = .int (xI 1) → p 17 = .int (xI 200) → p 18 = .int (xI 36524) → p 19 = .int 0 → xk_a A 2 44 13 f → (∀ j, j < k → f j = 0) → (∃ f, xk_a A 0 45 8 f) → (∃ f, xk_a A 0 46 7 f) → (∃ f, xk_a A 0 47 7 f) →
      ∃ B, xr_MU A B ∧ xr_M p0 B n 0 T xr_d0 l ∧ fM_readRule_35 z (xj_o 34) (xI k) A = if n = 0 then some (.inl (some (.int 1)), B) else fM_readRule_77 xj_fu (xj_o 34) (0 : Int32) (1 : Int32) B
  | 0, k, A, p, f, _, h, _, _, _, _, _, _, _, _, _, _, _, _, _, _ => by omega
  | z + 1, k, A, p, f, hk, hz, hT, h1, h2, q14, q15, q16, q17, q18, q19, hf, hf0, ⟨f5, g5⟩, ⟨f6, g6⟩, ⟨f7, g7⟩ => by
    rw [fM_readRule_35, xl_13, xq_le (by omega) (by omega) (by omega) (by omega)]
    by_cases hc : (13 : Int) ≤ k
    · obtain ⟨B, b1, b2, b3⟩ := xk_pv (.int (0 : Int32)) h1 (k := 22) (by decide)
      obtain ⟨C, c1, c2, c3⟩ := xk_pv (.int (0 : Int32)) b2 (k := 25) (by decide)
      have hMo : xr_Mo p0 (xk_p (xk_p p 22 (.int (0 : Int32))) 25 (.int (0 : Int32))) := xr_Mop (xr_Mop h2 (by decide) (by decide) (by decide)) (by decide) (by decide) (by decide)
      have u := xk_t b3 c3
      have hn2 := xk_gi c2 (x := xI n) ((hMo.2 2 (by decide)).trans hp2) (by decide)
      rw [if_pos hc, b1, xe_bind, c1, xe_bind, hn2, xe_bind, xl_0, xq_ne (by omega) (by omega) (by omega) (by omega)]
      refine ⟨C, xr_MU34 u, ⟨⟨_, c2, hMo, ?_⟩, hp2, hn, xk_au hT u (by decide), ⟨?_, ⟨f5, xk_au g5 u (by decide), fun k x h => by simp [xr_d0] at h⟩, ⟨f6, xk_au g6 u (by decide), fun k x h => by simp [xr_d0] at h⟩, ⟨f7, xk_au g7 u (by decide), fun k x h => by simp [xr_d0] at h⟩, by simp [xr_d0], by simp [xr_d0]⟩, hl⟩, ?_⟩
      · exact ⟨q14, q15, q16, q17, q18, q19, rfl, rfl⟩
      · refine xk_ac (xk_au hf u (by decide)) fun j hj => ?_
        rw [hf0 j (by omega)]
        simp [xr_d0]
      · by_cases e : n = 0
        · rw [if_pos e, if_pos (by omega)]; rfl
        · rw [if_neg e, if_neg (by omega)]
    · obtain ⟨B, b1, b2, b3⟩ := xk_as 0 hf (i := k) (by omega) (by omega) (by omega)
      have b1' : xj_as A (xj_o 44) 2 (xI k) (vp_nar .boolean (0 : Int32)) = some B := b1
      rw [if_neg hc, xm_gr 44 h1 h2.1 (by decide) (by decide), xe_bind, b1', xe_bind, xl_1, xI_add]
      obtain ⟨C, c1, c2, c3⟩ := xr_m35 hn hp2 hl z (k + 1) B p _ (by omega) (by omega) (xk_au hT b3 (by decide)) (xk_ou h1 b3 (by decide)) h2 q14 q15 q16 q17 q18 q19 b2 (fun j hj => by
        by_cases e : j = k
        · rw [e, Int.toNat_natCast, xk_p_e]
        · rw [xk_p_n _ _ (by omega)]; exact hf0 j (by omega)) ⟨f5, xk_au g5 b3 (by decide)⟩ ⟨f6, xk_au g6 b3 (by decide)⟩ ⟨f7, xk_au g7 b3 (by decide)⟩
      exact ⟨C, xk_t (xr_MUa b3 (by decide) (by decide)) c1, c2, c3⟩
theorem xr_mrr {p0 : Nat → Value} {n : Nat} {T : Nat → Int} {l : List Int} {A : xj_H} (hn : n ≤ 60) (hp2 : p0 2 = .int (xI n)) (hl : xr_at T n 0 l) (hT : xk_a A 0 35 60 T) (hG : xr_G p0 A) :
    (l = [] ∧ ∃ B, fM_readRule (xj_o 34) A = some (.inl (some (.int 1)), B) ∧ xr_MU A B ∧ xr_M p0 B n 0 T xr_d0 []) ∨
    (l ≠ [] ∧ ∃ d B j, xr_says l d ∧ fM_readRule (xj_o 34) A = some (.inl (some (.int 1)), B) ∧ xr_MU A B ∧ xr_M p0 B n j T d [] ∧ xr_ok d) ∨
    ((∀ d, ¬ xr_says l d) ∧ ∃ B, fM_readRule (xj_o 34) A = some (.inl (some (.int 0)), B) ∧ xr_MU A B ∧ xr_G p0 B) := by
  obtain ⟨⟨p, h1, h2⟩, ⟨f4, g4⟩, ⟨f5, g5⟩, ⟨f6, g6⟩, ⟨f7, g7⟩⟩ := hG
  obtain ⟨A1, a1, a2, a3⟩ := xk_pv (.int (0 : Int32)) h1 (k := 14) (by decide)
  obtain ⟨A2, b1, b2, b3⟩ := xk_pv (.int (0 : Int32)) a2 (k := 15) (by decide)
  obtain ⟨A3, c1, c2, c3⟩ := xk_pv (.int (1 : Int32)) b2 (k := 16) (by decide)
  obtain ⟨A4, d1, d2, d3⟩ := xk_pv (.int (200 : Int32)) c2 (k := 17) (by decide)
  obtain ⟨A5, e1, e2, e3⟩ := xk_pv (.int (36524 : Int32)) d2 (k := 18) (by decide)
  obtain ⟨A6, k1, k2, k3⟩ := xk_pv (.int (0 : Int32)) e2 (k := 19) (by decide)
  have u : xk_u (fun k => k = 34) A A6 := xk_t a3 (xk_t b3 (xk_t c3 (xk_t d3 (xk_t e3 k3))))
  have hMo := xr_Mop (v := .int (0 : Int32)) (xr_Mop (v := .int (36524 : Int32)) (xr_Mop (v := .int (200 : Int32)) (xr_Mop (v := .int (1 : Int32)) (xr_Mop (v := .int (0 : Int32)) (xr_Mop (v := .int (0 : Int32)) h2 (k := 14) (by decide) (by decide) (by decide)) (k := 15) (by decide) (by decide) (by decide)) (k := 16) (by decide) (by decide) (by decide)) (k := 17) (by decide) (by decide) (by decide)) (k := 18) (by decide) (by decide) (by decide)) (k := 19) (by decide) (by decide) (by decide)
  have k1' : xj_pz A5 (xj_o 34) 7 19 (0 : Int32) = some A6 := by
    unfold xj_pz
    rw [if_pos (Or.inl rfl)]; exact k1
  obtain ⟨B, s1, s2, s3⟩ := xr_m35 hn hp2 hl xj_fu 0 A6 _ f4 (by omega) (by unfold xj_fu; omega) (xk_au hT u (by decide)) k2 hMo rfl rfl rfl rfl rfl rfl (xk_au g4 u (by decide)) (fun j hj => by omega) ⟨f5, xk_au g5 u (by decide)⟩ ⟨f6, xk_au g6 u (by decide)⟩ ⟨f7, xk_au g7 u (by decide)⟩
  rw [show ((0 : Nat) : Int) = 0 from rfl, ← xl_0] at s3
  have hU : xr_MU A B := xk_t (xr_MU34 u) s1
  unfold fM_readRule
  rw [a1, xe_bind, b1, xe_bind, c1, xe_bind, d1, xe_bind, e1, xe_bind, k1', xe_bind, s3]
  have hi := hl.1
  match l, hl, hi, s2 with
  | [], hl, hi, s2 =>
    simp at hi
    rw [if_pos hi.symm]
    exact Or.inl ⟨rfl, B, rfl, hU, s2⟩
  | c :: r, hl, hi, s2 =>
    simp at hi
    rw [if_neg (by omega)]
    refine Or.inr ?_
    rcases xr_m77 7 xj_fu 0 0 B xr_d0 (c :: r) (by decide) (by unfold xj_fu; omega) xr_ok0 (xr_b_c xr_b_0 fun k _ => by
      unfold xr_hp
      rcases k with _ | _ | _ | _ | _ | _ | _ | k <;> simp [xr_hs, xr_d0]) s2 with ⟨d', C, j, w1, w2, w3, w4, w5, w6⟩ | ⟨w1, C, w2, w3, w4⟩
    · exact Or.inl ⟨by simp, d', C, j, Or.inr ⟨by simp, w1, w2⟩, w3, xk_t hU w4, w5, w6⟩
    · refine Or.inr ⟨fun d hs => ?_, C, w2, xk_t hU w3, w4⟩
      rcases hs with ⟨hs, _⟩ | ⟨_, hs, ha⟩
      · cases hs
      · exact w1 d hs ha

/-! The first moment that two events share. -/
def xc_W (P Q : Int → Prop) (la lb t : Int) : Prop := ∃ x y, P x ∧ Q y ∧ y < x + la ∧ x < y + lb ∧ t = if x ≤ y then y else x
def xc_R (W : Int → Prop) (r : Int) : Prop := (r = -1 ∧ ∀ t, ¬ W t) ∨ (W r ∧ ∀ t, W t → r ≤ t)
theorem xc_u {W : Int → Prop} {r s : Int} (h : xc_R W r) (k : xc_R W s) : r = s := by
  rcases h with ⟨h1, h2⟩ | ⟨h1, h2⟩ <;> rcases k with ⟨k1, k2⟩ | ⟨k1, k2⟩
  · omega
  · exact absurd k1 (h2 s)
  · exact absurd h1 (k2 r)
  · have := h2 s k1
    have := k2 r h1
    omega
theorem xc_R_c {W V : Int → Prop} (h : ∀ t, W t ↔ V t) {r : Int} (k : xc_R W r) : xc_R V r := by
  rcases k with ⟨k1, k2⟩ | ⟨k1, k2⟩
  · exact Or.inl ⟨k1, fun t ht => k2 t ((h t).mpr ht)⟩
  · exact Or.inr ⟨(h r).mp k1, fun t ht => k2 t ((h t).mpr ht)⟩
theorem xu_max {a b : Int} (a1 : -2147483648 ≤ a) (a2 : a ≤ 2147483647) (b1 : -2147483648 ≤ b) (b2 : b ≤ 2147483647) (A : xj_H) : fJ_max (xI a) (xI b) A = some (.inl (some (.int (xI (if a ≤ b then b else a)))), A) := by
  unfold fJ_max
  by_cases h : a < b
  · rw [xq_lt a1 a2 b1 b2, if_pos h, if_pos (by omega)]; rfl
  · rw [xq_lt a1 a2 b1 b2, if_neg h]
    by_cases e : a = b
    · subst e; rw [if_pos (by omega)]; rfl
    · rw [if_neg (by omega)]; rfl
theorem xc_fsL {oa ob : Nat} {na xa ma la nb xb mb lb : Int} {da sa db sb : Nat → Int} {A : xj_H} (ha : xu_E A oa na xa ma la da sa) (hb : xu_E A ob nb xb mb lb db sb) (na1 : na ≤ 200) (nb1 : nb ≤ 200) (la1 : 1 ≤ la) (la2 : la ≤ 2880) (lb1 : 1 ≤ lb) (lb2 : lb ≤ 2880) (ra : ∀ i : Nat, (i : Int) < na → -2000000000 ≤ sa i ∧ sa i ≤ 2000000000) (rb : ∀ i : Nat, (i : Int) < nb → -2000000000 ≤ sb i ∧ sb i ≤ 2000000000) (oa1 : ∀ i j : Nat, i < j → (j : Int) < na → sa i ≤ sa j) (ob1 : ∀ i j : Nat, i < j → (j : Int) < nb → sb i ≤ sb j) :
    ∀ (q : Nat) (i j : Nat), (i : Int) ≤ na → (j : Int) ≤ nb → (na - i).toNat + (nb - j).toNat < q → (∀ i' j' : Nat, (i' : Int) < na → (j' : Int) < nb → sb j' < sa i' + la → sa i' < sb j' + lb → i ≤ i' ∧ j ≤ j') → ∃ r, xc_R (xc_W (fun x => ∃ i : Nat, (i : Int) < na ∧ sa i = x) (fun x => ∃ i : Nat, (i : Int) < nb ∧ sb i = x) la lb) r ∧ fB_firstShared_4 q (xj_o oa) (xj_o ob) (xI i) (xI j) A = some (.inl (some (.int (xI r))), A)
  | 0, i, j, _, _, h, _ => by omega
  | q + 1, i, j, hi, hj, hq, hinv => by
    rw [fB_firstShared_4, xe_gi ha.1 rfl, xe_bind, xq_le (by omega) (by omega) (by omega) (by omega)]
    by_cases c1 : na ≤ i
    · rw [if_pos c1]
      refine ⟨-1, Or.inl ⟨rfl, ?_⟩, rfl⟩
      rintro t ⟨x, y, ⟨i', h1, rfl⟩, ⟨j', h2, rfl⟩, h3, h4, _⟩
      have := hinv i' j' h1 h2 h3 h4
      omega
    rw [if_neg c1, xe_gi hb.1 rfl, xe_bind, xq_le (by omega) (by omega) (by omega) (by omega)]
    by_cases c2 : nb ≤ j
    · rw [if_pos c2]
      refine ⟨-1, Or.inl ⟨rfl, ?_⟩, rfl⟩
      rintro t ⟨x, y, ⟨i', h1, rfl⟩, ⟨j', h2, rfl⟩, h3, h4, _⟩
      have := hinv i' j' h1 h2 h3 h4
      omega
    have rai := ra i (by omega)
    have rbj := rb j (by omega)
    rw [if_neg c2, xe_gr ha.1 rfl, xe_bind, xk_ai ha.2.2 (by omega) (by omega) (by omega), xe_bind, xe_gr hb.1 rfl, xe_bind, xk_ai hb.2.2 (by omega) (by omega) (by omega), xe_bind, xe_gi ha.1 rfl, xe_bind, Int.toNat_natCast, Int.toNat_natCast, xI_add, xq_lt (by omega) (by omega) (by omega) (by omega)]
    by_cases c3 : sb j < sa i + la
    · rw [if_pos c3, xe_gi hb.1 rfl, xe_bind, xI_add, xq_lt (by omega) (by omega) (by omega) (by omega)]
      by_cases c4 : sa i < sb j + lb
      · rw [if_pos c4, xu_max (by omega) (by omega) (by omega) (by omega), xe_bi]
        refine ⟨_, Or.inr ⟨⟨sa i, sb j, ⟨i, by omega, rfl⟩, ⟨j, by omega, rfl⟩, c3, c4, rfl⟩, ?_⟩, rfl⟩
        rintro t ⟨x, y, ⟨i', h1, rfl⟩, ⟨j', h2, rfl⟩, h3, h4, rfl⟩
        obtain ⟨k1, k2⟩ := hinv i' j' h1 h2 h3 h4
        have g1 : sa i ≤ sa i' := by
          by_cases e : i = i'
          · subst e; omega
          · exact oa1 i i' (by omega) h1
        have g2 : sb j ≤ sb j' := by
          by_cases e : j = j'
          · subst e; omega
          · exact ob1 j j' (by omega) h2
        split <;> split <;> omega
      · rw [if_neg c4, fB_firstShared_80, xl_1, xI_add]
        refine xc_fsL ha hb na1 nb1 la1 la2 lb1 lb2 ra rb oa1 ob1 q i (j + 1) (by omega) (by omega) (by omega) fun i' j' h1 h2 h3 h4 => ?_
        obtain ⟨k1, k2⟩ := hinv i' j' h1 h2 h3 h4
        refine ⟨k1, ?_⟩
        by_cases e : j = j'
        · subst e
          have g1 : sa i ≤ sa i' := by
            by_cases e : i = i'
            · subst e; omega
            · exact oa1 i i' (by omega) h1
          omega
        · omega
    · rw [if_neg c3, fB_firstShared_80, xl_1, xI_add]
      refine xc_fsL ha hb na1 nb1 la1 la2 lb1 lb2 ra rb oa1 ob1 q (i + 1) j (by omega) (by omega) (by omega) fun i' j' h1 h2 h3 h4 => ?_
      obtain ⟨k1, k2⟩ := hinv i' j' h1 h2 h3 h4
      refine ⟨?_, k2⟩
      by_cases e : i = i'
      · subst e
        have g2 : sb j ≤ sb j' := by
          by_cases e : j = j'
          · subst e; omega
          · exact ob1 j j' (by omega) h2
        omega
      · omega
/-- the moments at which an event's times start -/
def xc_P (s m : Int) (f g : Nat → Int) (mi : Int) (C : List Int) (x : Int) : Prop := ∃ d, d ∈ C ∧ x = xz_mo s m f g (1440 * d + mi)
theorem xc_PS {s m : Int} {f g : Nat → Int} {mi : Int} {C : List Int} {d st : Nat → Int} (hd : xu_h d C) (hS : xu_S (fun j => xz_mo s m f g (1440 * d j + mi)) C.length st) (x : Int) : (∃ i : Nat, (i : Int) < C.length ∧ st i = x) ↔ xc_P s m f g mi C x := by
  obtain ⟨h1, h2, h3⟩ := hS
  constructor
  · rintro ⟨i, i1, rfl⟩
    obtain ⟨j, j1, j2⟩ := h2 i (by omega)
    exact ⟨d j, xu_hm hd j1, j2⟩
  · rintro ⟨a, a1, rfl⟩
    obtain ⟨j, j1, rfl⟩ := xu_mh hd a1
    obtain ⟨i, i1, i2⟩ := h3 j j1
    exact ⟨i, by omega, i2⟩
theorem xc_Pb {s m : Int} {f g : Nat → Int} (hF : xz_F s m f g) {mi : Int} (m0 : 0 ≤ mi) (m1 : mi ≤ 1439) {C : List Int} (hC : ∀ d ∈ C, 0 ≤ d ∧ d ≤ 36524) {x : Int} (h : xc_P s m f g mi C x) : -840 ≤ x ∧ x ≤ 60000000 := by
  obtain ⟨d, d1, d2⟩ := h
  have := hC d d1
  have := xz_mo_b hF (1440 * d + mi)
  omega
theorem xc_W_c {P P' Q Q' : Int → Prop} (hp : ∀ x, P x ↔ P' x) (hq : ∀ x, Q x ↔ Q' x) {la lb t : Int} : xc_W P Q la lb t ↔ xc_W P' Q' la lb t := by
  constructor
  · rintro ⟨x, y, h1, h2, h3⟩; exact ⟨x, y, (hp x).mp h1, (hq y).mp h2, h3⟩
  · rintro ⟨x, y, h1, h2, h3⟩; exact ⟨x, y, (hp x).mpr h1, (hq y).mpr h2, h3⟩
theorem xc_first {oa ob : Nat} {xa ma la xb mb lb s m : Int} {da sa db sb f g : Nat → Int} {Ca Cb : List Int} {A : xj_H} (hF : xz_F s m f g) (ha : xu_E A oa Ca.length xa ma la da sa) (hb : xu_E A ob Cb.length xb mb lb db sb) (na1 : Ca.length ≤ 200) (nb1 : Cb.length ≤ 200) (la1 : 1 ≤ la) (la2 : la ≤ 2880) (lb1 : 1 ≤ lb) (lb2 : lb ≤ 2880) (ma0 : 0 ≤ ma) (ma1 : ma ≤ 1439) (mb0 : 0 ≤ mb) (mb1 : mb ≤ 1439) (hda : xu_h da Ca) (hdb : xu_h db Cb) (hCa : ∀ d ∈ Ca, 0 ≤ d ∧ d ≤ 36524) (hCb : ∀ d ∈ Cb, 0 ≤ d ∧ d ≤ 36524) (hSa : xu_S (fun j => xz_mo s m f g (1440 * da j + ma)) Ca.length sa) (hSb : xu_S (fun j => xz_mo s m f g (1440 * db j + mb)) Cb.length sb) :
    ∃ r, xc_R (xc_W (xc_P s m f g ma Ca) (xc_P s m f g mb Cb) la lb) r ∧ fB_firstShared (xj_o oa) (xj_o ob) A = some (.inl (some (.int (xI r))), A) := by
  have ra : ∀ i : Nat, (i : Int) < Ca.length → -2000000000 ≤ sa i ∧ sa i ≤ 2000000000 := fun i hi => by
    have := xc_Pb hF ma0 ma1 hCa ((xc_PS hda hSa (sa i)).mp ⟨i, hi, rfl⟩)
    omega
  have rb : ∀ i : Nat, (i : Int) < Cb.length → -2000000000 ≤ sb i ∧ sb i ≤ 2000000000 := fun i hi => by
    have := xc_Pb hF mb0 mb1 hCb ((xc_PS hdb hSb (sb i)).mp ⟨i, hi, rfl⟩)
    omega
  obtain ⟨r, r1, r2⟩ := xc_fsL ha hb (by omega) (by omega) la1 la2 lb1 lb2 ra rb (fun i j h1 h2 => hSa.1 i j h1 (by omega)) (fun i j h1 h2 => hSb.1 i j h1 (by omega)) xj_fu 0 0 (by omega) (by omega) (by unfold xj_fu; omega) (fun i' j' _ _ _ _ => ⟨by omega, by omega⟩)
  exact ⟨r, xc_R_c (fun t => xc_W_c (xc_PS hda hSa) (xc_PS hdb hSb)) r1, r2⟩

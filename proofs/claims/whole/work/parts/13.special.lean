section Xspecial
variable {l : Launch} {z : xj_F} {y0 : MethodName} {cc : ByteArray} {nL : Nat} {ret : Option FieldType} {hs : List (Nat × Nat × Nat × Nat)} {d pc : Nat} {ls : List (Nat × Value)} {st : List Value} {A : xj_H}
theorem xj_B.S (B : xj_B l y0 cc nL ret hs d z) : xj_S (xf_g z) (xj_al (xf_g z) (xf_d z) (xf_H z) (xf_s z)) (xf_s z) (xf_s z).heap := B.2.2.2.2.2.2.2.2.2.2.1
theorem xj_B.T (B : xj_B l y0 cc nL ret hs d z) : xj_T (xf_s z) := B.2.2.2.2.2.2.2.2.1
theorem xj_B.own (B : xj_B l y0 cc nL ret hs d z) : (xf_s z).vm.findClass y0.cls = some (xf_m z).cls := B.2.2.2.2.2.2.1
/-- a string constant -/
theorem xg_ldcS (B : xj_B l y0 cc nL ret hs d z) {index i : Nat} (hd : decode cc pc = .ok (.ldc index, 2)) (hw : ∃ tx, (y0.cls, index, i, tx) ∈ xj_sr) (k : xj_W l z (pc + 2) ls (xj_rv (some (.inr (100 + i))) :: st) A) : xj_W l z pc ls st A := by
  intro ad H locs cells slots lz hI hls hst hlv
  obtain ⟨tx, hw⟩ := hw
  exact va_ldcS B.1 B.2.1 B.own (xj_S.str B.S hw) hd (k ad H locs cells slots lz hI hls ⟨trivial, hst⟩ hlv)
/-- an enum constant -/
theorem xg_gete (B : xj_B l y0 cc nL ret hs d z) {index i : Nat} (hd : decode cc pc = .ok (.getstatic index, 3)) (hi : i < 4) (hw : Cond.fieldLink y0.cls index xj_fq (xj_fn.getD i "") "LRecurrenceBook$Frequency;" ∈ xj_ws) (k : xj_W l z (pc + 3) ls (xj_rv (some (.inr i)) :: st) A) : xj_W l z pc ls st A := by
  intro ad H locs cells slots lz hI hls hst hlv
  exact va_gets B.1 B.2.1 (B.S.2.2.2.2.1.1 i hi).1 hI.2.2.2.2.2.1 B.own (B.T.1 _ hw _) (fun _ h => h) hd (k ad H locs cells slots lz hI hls ⟨trivial, hst⟩ hlv)
/-- the static table -/
theorem xg_gett (B : xj_B l y0 cc nL ret hs d z) {index : Nat} (hd : decode cc pc = .ok (.getstatic index, 3)) (hw : Cond.fieldLink y0.cls index "RecurrenceBook$Dates" "DAYS_BEFORE_MONTH" "[I" ∈ xj_ws) (k : xj_W l z (pc + 3) ls (xj_rv (some (.inr 50)) :: st) A) : xj_W l z pc ls st A := by
  intro ad H locs cells slots lz hI hls hst hlv
  exact va_gets B.1 B.2.1 B.S.2.2.2.2.2.1 hI.2.2.2.2.2.1 B.own (B.T.1 _ hw _) (fun _ h => h) hd (k ad H locs cells slots lz hI hls ⟨trivial, hst⟩ hlv)
def xj_tb (i : Int32) : Option Int32 := if i < 0 ∨ 12 ≤ i.toNatClampNeg then none else some (xj_dm.getD i.toNatClampNeg 0)
theorem xg_tload (B : xj_B l y0 cc nL ret hs d z) {i : Int32} {K : Int32 → Option xj_R} (hd : decode cc pc = .ok (.iaload, 1)) (h : (xj_tb i).bind K = some (xf_r z)) (kk : ∀ x, xj_tb i = some x → K x = some (xf_r z) → xj_W l z (pc + 1) ls (.int x :: st) A) : xj_W l z pc ls (.int i :: xj_rv (some (.inr 50)) :: st) A := by
  obtain ⟨x, h1, h2⟩ := Option.bind_eq_some_iff.mp h
  have k := kk x h1 h2
  unfold xj_tb at h1
  by_cases hc : i < 0 ∨ 12 ≤ i.toNatClampNeg
  · rw [if_pos hc] at h1; cases h1
  · rw [if_neg hc] at h1
    cases h1
    intro ad H locs cells slots lz hI hls hst hlv
    exact va_ti B.1 B.2.1 B.S.2.2.2.2.2.2.1 hI.2.2.2.2.2.1 hc rfl hd (k ad H locs cells slots lz hI hls ⟨trivial, hst.2.2⟩ hlv)
/-- the script -/
def xj_sc (xs : Nat → Int32) (L : Nat) (i : Int32) : Option Int32 := if i < 0 ∨ L ≤ i.toNatClampNeg then none else some (xs i.toNatClampNeg)
theorem xg_sload (B : xj_B l y0 cc nL ret hs d z) {i : Int32} {K : Int32 → Option xj_R} (hd : decode cc pc = .ok (.iaload, 1)) (h : (xj_sc (xf_g z).2.2.2.1 (xf_g z).2.2.2.2 i).bind K = some (xf_r z)) (kk : ∀ x, xj_sc (xf_g z).2.2.2.1 (xf_g z).2.2.2.2 i = some x → K x = some (xf_r z) → xj_W l z (pc + 1) ls (.int x :: st) A) : xj_W l z pc ls (.int i :: xj_rv (some (.inr 200)) :: st) A := by
  obtain ⟨x, h1, h2⟩ := Option.bind_eq_some_iff.mp h
  have k := kk x h1 h2
  unfold xj_sc at h1
  by_cases hc : i < 0 ∨ (xf_g z).2.2.2.2 ≤ i.toNatClampNeg
  · rw [if_pos hc] at h1; cases h1
  · rw [if_neg hc] at h1
    cases h1
    intro ad H locs cells slots lz hI hls hst hlv
    obtain ⟨⟨scr, s1, s2, s3, s4, s5⟩, hna⟩ := B.S.2.2.2.2.2.2.2.2.2.2.1
    have hH : H[(xf_g z).2.2.1 200]? = some scr := by rw [hI.2.2.2.2.2.1.2.1 _ (Array.getElem?_eq_some_iff.mp s1).1 hna]; exact s1
    exact W.iald B.1 B.2.1 hH s2 s3 (by rw [s4]; exact hc) (s5 _ (by omega)) (g := F0 (xf_m z) pc lz _) rfl rfl hd (k ad H locs cells slots lz hI hls ⟨trivial, hst.2.2⟩ hlv)
theorem xg_slen (B : xj_B l y0 cc nL ret hs d z) (hd : decode cc pc = .ok (.arraylength, 1)) (k : xj_W l z (pc + 1) ls (.int (Int32.ofNat (xf_g z).2.2.2.2) :: st) A) : xj_W l z pc ls (xj_rv (some (.inr 200)) :: st) A := by
  intro ad H locs cells slots lz hI hls hst hlv
  obtain ⟨⟨scr, s1, s2, s3, s4, s5⟩, hna⟩ := B.S.2.2.2.2.2.2.2.2.2.2.1
  have hH : H[(xf_g z).2.2.1 200]? = some scr := by rw [hI.2.2.2.2.2.1.2.1 _ (Array.getElem?_eq_some_iff.mp s1).1 hna]; exact s1
  exact W.alen B.1 B.2.1 hH s2 (n := Int32.ofNat (xf_g z).2.2.2.2) (by rw [s4]) (g := F0 (xf_m z) pc lz _) rfl rfl hd (k ad H locs cells slots lz hI hls ⟨trivial, hst.2⟩ hlv)
/-! What String's own methods read. -/
def xj_si (o : xj_Rf) (b : Nat) : Option Nat := match o with
  | some (.inr j) => if b ≤ j ∧ j < b + 22 then some (j - b) else none
  | _ => none
theorem xj_si_inv {o : xj_Rf} {b i : Nat} (h : xj_si o b = some i) : i < 22 ∧ o = some (.inr (b + i)) := by
  unfold xj_si at h
  split at h
  · rename_i j
    by_cases hc : b ≤ j ∧ j < b + 22
    · rw [if_pos hc] at h
      cases h
      exact ⟨by omega, by congr 2; omega⟩
    · rw [if_neg hc] at h; cases h
  · cases h
def xj_sv (o : xj_Rf) : Option xj_Rf := (xj_si o 100).bind fun i => some (some (.inr (300 + i)))
def xj_sk (o : xj_Rf) : Option Int32 := (xj_si o 100).bind fun _ => some 0
def xj_sn (o : xj_Rf) : Option Int32 := (xj_si o 300).bind fun i => some (Int32.ofNat (xj_sl.getD i 0))
def xj_sx (o : xj_Rf) (k : Int32) : Option Int32 := (xj_si o 300).bind fun i => if k < 0 ∨ xj_sl.getD i 0 ≤ k.toNatClampNeg then none else some ((xj_sb.getD i []).getD k.toNatClampNeg 0)
theorem xg_sval (B : xj_B l y0 cc nL ret hs d z) {o : xj_Rf} {K : xj_Rf → Option xj_R} {index : Nat} (hd : decode cc pc = .ok (.getfield index, 3)) (hw : Cond.fieldLink y0.cls index "java/lang/String" "value" "[B" ∈ xj_ws) (h : (xj_sv o).bind K = some (xf_r z)) (kk : ∀ x, xj_sv o = some x → K x = some (xf_r z) → xj_W l z (pc + 3) ls (xj_rv x :: st) A) : xj_W l z pc ls (xj_rv o :: st) A := by
  obtain ⟨x, h1, h2⟩ := Option.bind_eq_some_iff.mp h
  have k := kk x h1 h2
  obtain ⟨i, h3, h4⟩ := Option.bind_eq_some_iff.mp h1
  cases h4
  obtain ⟨hi, rfl⟩ := xj_si_inv h3
  intro ad H locs cells slots lz hI hls hst hlv
  exact vk_getf B.1 B.2.1 (B.S.1.1 i hi).2.2.1 hI.2.2.2.2.2.1 B.own (B.T.1 _ hw _) (fun _ h => h) hd (k ad H locs cells slots lz hI hls ⟨trivial, hst.2⟩ hlv)
theorem xg_scod (B : xj_B l y0 cc nL ret hs d z) {o : xj_Rf} {K : Int32 → Option xj_R} {index : Nat} (hd : decode cc pc = .ok (.getfield index, 3)) (hw : Cond.fieldLink y0.cls index "java/lang/String" "coder" "B" ∈ xj_ws) (h : (xj_sk o).bind K = some (xf_r z)) (kk : ∀ x, xj_sk o = some x → K x = some (xf_r z) → xj_W l z (pc + 3) ls (.int x :: st) A) : xj_W l z pc ls (xj_rv o :: st) A := by
  obtain ⟨x, h1, h2⟩ := Option.bind_eq_some_iff.mp h
  have k := kk x h1 h2
  obtain ⟨i, h3, h4⟩ := Option.bind_eq_some_iff.mp h1
  cases h4
  obtain ⟨hi, rfl⟩ := xj_si_inv h3
  intro ad H locs cells slots lz hI hls hst hlv
  exact vk_getf B.1 B.2.1 (B.S.1.1 i hi).2.1 hI.2.2.2.2.2.1 B.own (B.T.1 _ hw _) (fun _ h => h) hd (k ad H locs cells slots lz hI hls ⟨trivial, hst.2⟩ hlv)
theorem xg_sblen (B : xj_B l y0 cc nL ret hs d z) {o : xj_Rf} {K : Int32 → Option xj_R} (hd : decode cc pc = .ok (.arraylength, 1)) (h : (xj_sn o).bind K = some (xf_r z)) (kk : ∀ x, xj_sn o = some x → K x = some (xf_r z) → xj_W l z (pc + 1) ls (.int x :: st) A) : xj_W l z pc ls (xj_rv o :: st) A := by
  obtain ⟨x, h1, h2⟩ := Option.bind_eq_some_iff.mp h
  have k := kk x h1 h2
  obtain ⟨i, h3, h4⟩ := Option.bind_eq_some_iff.mp h1
  cases h4
  obtain ⟨hi, rfl⟩ := xj_si_inv h3
  intro ad H locs cells slots lz hI hls hst hlv
  exact va_tlen B.1 B.2.1 (B.S.1.1 i hi).2.2.2 hI.2.2.2.2.2.1 rfl hd (k ad H locs cells slots lz hI hls ⟨trivial, hst.2⟩ hlv)
theorem xg_sbload (B : xj_B l y0 cc nL ret hs d z) {o : xj_Rf} {i0 : Int32} {K : Int32 → Option xj_R} (hd : decode cc pc = .ok (.baload, 1)) (h : (xj_sx o i0).bind K = some (xf_r z)) (kk : ∀ x, xj_sx o i0 = some x → K x = some (xf_r z) → xj_W l z (pc + 1) ls (.int x :: st) A) : xj_W l z pc ls (.int i0 :: xj_rv o :: st) A := by
  obtain ⟨x, h1, h2⟩ := Option.bind_eq_some_iff.mp h
  have k := kk x h1 h2
  obtain ⟨i, h3, h4⟩ := Option.bind_eq_some_iff.mp h1
  obtain ⟨hi, rfl⟩ := xj_si_inv h3
  by_cases hc : i0 < 0 ∨ xj_sl.getD i 0 ≤ i0.toNatClampNeg
  · rw [if_pos hc] at h4; cases h4
  · rw [if_neg hc] at h4
    cases h4
    intro ad H locs cells slots lz hI hls hst hlv
    exact va_tb B.1 B.2.1 (B.S.1.1 i hi).2.2.2 hI.2.2.2.2.2.1 hc rfl hd (k ad H locs cells slots lz hI hls ⟨trivial, hst.2.2⟩ hlv)
theorem xg_getcs (B : xj_B l y0 cc nL ret hs d z) {index : Nat} (hd : decode cc pc = .ok (.getstatic index, 3)) (hw : Cond.fieldLink y0.cls index "java/lang/String" "COMPACT_STRINGS" "Z" ∈ xj_ws) (k : xj_W l z (pc + 3) ls (.int 1 :: st) A) : xj_W l z pc ls st A := by
  intro ad H locs cells slots lz hI hls hst hlv
  exact va_gets B.1 B.2.1 B.S.2.2.2.2.2.2.2.2.1 hI.2.2.2.2.2.1 B.own (B.T.1 _ hw _) (fun _ h => h) hd (k ad H locs cells slots lz hI hls ⟨trivial, hst⟩ hlv)
theorem xg_getsf (B : xj_B l y0 cc nL ret hs d z) {index : Nat} (hd : decode cc pc = .ok (.getstatic index, 3)) (hw : Cond.fieldLink y0.cls index xj_jp "SIOOBE_FORMATTER" xj_jf ∈ xj_ws) (k : ∀ r : xj_Rf, xj_W l z (pc + 3) ls (xj_rv r :: st) A) : xj_W l z pc ls st A := by
  intro ad H locs cells slots lz hI hls hst hlv
  rcases B.S.2.2.2.2.2.2.2.2.2.1 with h | h
  · exact va_gets B.1 B.2.1 h hI.2.2.2.2.2.1 B.own (B.T.1 _ hw _) (fun _ h => h) hd (k none ad H locs cells slots lz hI hls ⟨trivial, hst⟩ hlv)
  · exact va_gets B.1 B.2.1 h hI.2.2.2.2.2.1 B.own (B.T.1 _ hw _) (fun _ h => h) hd (k (some (.inr 60)) ad H locs cells slots lz hI hls ⟨trivial, hst⟩ hlv)
/-! References compared: null and enum constants. -/
def xj_e4 (r : xj_Rf) : Bool := match r with
  | none => true
  | some (.inr i) => decide (i < 4)
  | _ => false
def xj_on (g : xj_G) (r : xj_Rf) : Option Nat := match r with
  | some (.inr i) => some (g.2.2.1 i)
  | _ => none
theorem xj_on_v {g : xj_G} {ad : Nat → Nat} {r : xj_Rf} (h : xj_e4 r = true) : xj_v g ad (xj_rv r) = va_rf (xj_on g r) := by
  match r, h with
  | none, _ => rfl
  | some (.inr i), _ => rfl
theorem xj_on_inj (B : xj_B l y0 cc nL ret hs d z) {r q : xj_Rf} (h : xj_e4 r = true) (h' : xj_e4 q = true) : xj_on (xf_g z) r = xj_on (xf_g z) q ↔ r = q := by
  match r, q, h, h' with
  | none, none, _, _ => simp
  | none, some (.inr j), _, _ => simp [xj_on]
  | some (.inr i), none, _, _ => simp [xj_on]
  | some (.inr i), some (.inr j), h, h' =>
    constructor
    · intro e
      have := B.S.2.2.2.2.1.2 i j (of_decide_eq_true h) (of_decide_eq_true h') (Option.some.inj e)
      rw [this]
    · intro e; rw [e]
theorem xg_acmp_eq (B : xj_B l y0 cc nL ret hs d z) {r q : xj_Rf} {off : Int} {tgt : Nat} {P P' : Option xj_R} (hd : decode cc pc = .ok (.if_acmp .eq off, 3)) (ht : (pc : Int) + off = (tgt : Int)) (h : (if (xj_e4 r && xj_e4 q) = true then (if r = q then P else P') else none) = some (xf_r z)) (kt : r = q → P = some (xf_r z) → xj_W l z tgt ls st A) (kf : ¬ r = q → P' = some (xf_r z) → xj_W l z (pc + 3) ls st A) : xj_W l z pc ls (xj_rv q :: xj_rv r :: st) A := by
  by_cases he : (xj_e4 r && xj_e4 q) = true
  · rw [if_pos he] at h
    obtain ⟨h1, h2⟩ := Bool.and_eq_true_iff.mp he
    intro ad H locs cells slots lz hI hls hst hlv
    show W _ _ _ _ _ _ _ _ _ _ _ _ _ _ _ (F0 _ _ _ (xj_v (xf_g z) ad (xj_rv q) :: xj_v (xf_g z) ad (xj_rv r) :: _))
    rw [xj_on_v h1, xj_on_v h2]
    refine lv_acmp_eq B.1 B.2.1 hd ht (fun e => ?_) (fun e => ?_)
    · have e := (xj_on_inj B h1 h2).mp e
      exact kt e (by rw [if_pos e] at h; exact h) ad H locs cells slots lz hI hls hst.2.2 hlv
    · have e : ¬ r = q := fun q => e ((xj_on_inj B h1 h2).mpr q)
      exact kf e (by rw [if_neg e] at h; exact h) ad H locs cells slots lz hI hls hst.2.2 hlv
  · rw [if_neg he] at h; cases h
theorem xg_acmp_ne (B : xj_B l y0 cc nL ret hs d z) {r q : xj_Rf} {off : Int} {tgt : Nat} {P P' : Option xj_R} (hd : decode cc pc = .ok (.if_acmp .ne off, 3)) (ht : (pc : Int) + off = (tgt : Int)) (h : (if (xj_e4 r && xj_e4 q) = true then (if ¬ r = q then P else P') else none) = some (xf_r z)) (kt : ¬ r = q → P = some (xf_r z) → xj_W l z tgt ls st A) (kf : ¬ ¬ r = q → P' = some (xf_r z) → xj_W l z (pc + 3) ls st A) : xj_W l z pc ls (xj_rv q :: xj_rv r :: st) A := by
  by_cases he : (xj_e4 r && xj_e4 q) = true
  · rw [if_pos he] at h
    obtain ⟨h1, h2⟩ := Bool.and_eq_true_iff.mp he
    intro ad H locs cells slots lz hI hls hst hlv
    show W _ _ _ _ _ _ _ _ _ _ _ _ _ _ _ (F0 _ _ _ (xj_v (xf_g z) ad (xj_rv q) :: xj_v (xf_g z) ad (xj_rv r) :: _))
    rw [xj_on_v h1, xj_on_v h2]
    refine lv_acmp_ne B.1 B.2.1 hd ht (fun e => ?_) (fun e => ?_)
    · have e : ¬ r = q := fun q => e ((xj_on_inj B h1 h2).mpr q)
      exact kt e (by rw [if_pos e] at h; exact h) ad H locs cells slots lz hI hls hst.2.2 hlv
    · have e := (xj_on_inj B h1 h2).mp e
      exact kf (fun q => q e) (by rw [if_neg (fun q => q e)] at h; exact h) ad H locs cells slots lz hI hls hst.2.2 hlv
  · rw [if_neg he] at h; cases h
def xj_isw (o : xj_Rf) : Bool := match o with
  | some (.inl _) => true
  | _ => false
theorem xj_isw_inv {o : xj_Rf} {P : Option xj_R} {r : xj_R} (h : (if xj_isw o = true then P else none) = some r) : ∃ a, o = some (.inl a) ∧ P = some r := by
  by_cases hc : xj_isw o = true
  · rw [if_pos hc] at h
    match o, hc with
    | some (.inl a), _ => exact ⟨a, rfl, h⟩
  · rw [if_neg hc] at h; cases h
/-! Calls whose exceptions the method catches. -/
def xj_ki (F : Option xj_R) (K : Int32 → xj_H → Option xj_R) (X : String → xj_H → Option xj_R) : Option xj_R := match F with
  | some (.inl (some (.int v)), A) => K v A
  | some (.inr x, A) => X x A
  | _ => none
def xj_kv (F : Option xj_R) (K : xj_H → Option xj_R) (X : String → xj_H → Option xj_R) : Option xj_R := match F with
  | some (.inl none, A) => K A
  | some (.inr x, A) => X x A
  | _ => none
theorem xj_rq_ki {o : xj_Rf} {ci : Nat} {F : Option xj_R} {K : Int32 → xj_H → Option xj_R} {X : String → xj_H → Option xj_R} {r : xj_R} (h : xj_ki (xj_rq A o ci F) K X = some r) : xj_is A o ci = true ∧ xj_ki F K X = some r := by
  unfold xj_rq at h
  by_cases hc : xj_is A o ci = true
  · rw [if_pos hc] at h; exact ⟨hc, h⟩
  · rw [if_neg hc] at h; cases h
theorem xj_rq_kv {o : xj_Rf} {ci : Nat} {F : Option xj_R} {K : xj_H → Option xj_R} {X : String → xj_H → Option xj_R} {r : xj_R} (h : xj_kv (xj_rq A o ci F) K X = some r) : xj_is A o ci = true ∧ xj_kv F K X = some r := by
  unfold xj_rq at h
  by_cases hc : xj_is A o ci = true
  · rw [if_pos hc] at h; exact ⟨hc, h⟩
  · rw [if_neg hc] at h; cases h
theorem xg_ki (B : xj_B l y0 cc nL ret hs d z) {y : MethodName} {cy : ByteArray} {nLy d' : Nat} {rety : Option FieldType} {hsy : List (Nat × Nat × Nat × Nat)} {av : List Value} {F : Option xj_R} {K : Int32 → xj_H → Option xj_R} {X : String → xj_H → Option xj_R} {ig : Instr} (hd : decode cc pc = .ok (ig, 3)) (hgo : xj_go l z pc A y av) (hwy : xj_cw y cy nLy rety hsy ∈ xj_ws) (hwi : Cond.initialized y.cls ∈ xj_ws) (hdd : d' + 1 ≤ d) (hnLy : nLy ≤ 21) (hst8 : (st.map fun v => v.category).sum ≤ 8)
    (hM : ∀ r', F = some r' → xj_M l y cy nLy rety hsy d' av A r') (h : xj_ki F K X = some (xf_r z)) (kk : ∀ v A', F = some (.inl (some (.int v)), A') → K v A' = some (xf_r z) → xj_W l z (pc + 3) ls (.int v :: st) A') (kx : ∀ x A', F = some (.inr x, A') → X x A' = some (xf_r z) → xj_X l z pc ls x A') : xj_W l z pc ls (av.reverse ++ st) A := by
  obtain ⟨need, hinv, hneed⟩ := hgo
  unfold xj_ki at h
  split at h
  · rename_i v A'
    exact xg_core B hd hinv hneed (hM _ rfl) hwy hwi hdd hnLy hst8 (fun w hw => by cases hw; exact kk v A' rfl h) (fun x hx => by cases hx)
  · rename_i x A'
    exact xg_core B hd hinv hneed (hM _ rfl) hwy hwi hdd hnLy hst8 (fun w hw => by cases hw) (fun w hx => by cases hx; exact kx x A' rfl h)
  · cases h
theorem xg_kv (B : xj_B l y0 cc nL ret hs d z) {y : MethodName} {cy : ByteArray} {nLy d' : Nat} {rety : Option FieldType} {hsy : List (Nat × Nat × Nat × Nat)} {av : List Value} {F : Option xj_R} {K : xj_H → Option xj_R} {X : String → xj_H → Option xj_R} {ig : Instr} (hd : decode cc pc = .ok (ig, 3)) (hgo : xj_go l z pc A y av) (hwy : xj_cw y cy nLy rety hsy ∈ xj_ws) (hwi : Cond.initialized y.cls ∈ xj_ws) (hdd : d' + 1 ≤ d) (hnLy : nLy ≤ 21) (hst8 : (st.map fun v => v.category).sum ≤ 8)
    (hM : ∀ r', F = some r' → xj_M l y cy nLy rety hsy d' av A r') (h : xj_kv F K X = some (xf_r z)) (kk : ∀ A', F = some (.inl none, A') → K A' = some (xf_r z) → xj_W l z (pc + 3) ls st A') (kx : ∀ x A', F = some (.inr x, A') → X x A' = some (xf_r z) → xj_X l z pc ls x A') : xj_W l z pc ls (av.reverse ++ st) A := by
  obtain ⟨need, hinv, hneed⟩ := hgo
  unfold xj_kv at h
  split at h
  · rename_i A'
    exact xg_core B hd hinv hneed (hM _ rfl) hwy hwi hdd hnLy hst8 (fun w hw => by cases hw; exact kk A' rfl h) (fun x hx => by cases hx)
  · rename_i x A'
    exact xg_core B hd hinv hneed (hM _ rfl) hwy hwi hdd hnLy hst8 (fun w hw => by cases hw) (fun w hx => by cases hx; exact kx x A' rfl h)
  · cases h
theorem xj_nc (B : xj_B l y0 cc nL ret hs d z) : ∀ U, (xf_s z).WarmedH U → ∀ c t, U.findClass "java/lang/IllegalArgumentException" = some c → U.findClass "java/lang/IllegalStateException" = some t → U.assignable c t = false := by
  intro U hW c t h1 h2
  obtain ⟨c', t', g1, g2, g3⟩ := B.S.2.2.2.2.2.2.2.2.2.2.2
  have ha := hW.alike
  rw [ha.findClass] at h1 h2
  cases h1.symm.trans g1
  cases h2.symm.trans g2
  rw [ha.assignable]; exact g3
theorem xj_vw_c {own : String} {index ci n nLy : Nat} {y : MethodName} {cy : ByteArray} {rety : Option FieldType} {hsy : List (Nat × Nat × Nat × Nat)} (h : xj_vw own index ci y cy nLy rety hsy n) : xj_cw y cy nLy rety hsy ∈ xj_ws := by
  obtain ⟨C, T, N, w0, w1, w2, w3, w4, w5, w6, w7⟩ := h
  exact w4
theorem xj_vw_i {own : String} {index ci n nLy : Nat} {y : MethodName} {cy : ByteArray} {rety : Option FieldType} {hsy : List (Nat × Nat × Nat × Nat)} (h : xj_vw own index ci y cy nLy rety hsy n) : Cond.initialized y.cls ∈ xj_ws := by
  obtain ⟨C, T, N, w0, w1, w2, w3, w4, w5, w6, w7⟩ := h
  exact w5
/-- virtual calls on String constants -/
def xj_zw (own : String) (index : Nat) (y : MethodName) (cy : ByteArray) (nLy : Nat) (rety : Option FieldType) (n : Nat) : Prop :=
  Cond.methodLink own index y ∈ xj_ws ∧ Cond.instanceMethod y ∈ xj_ws ∧ Cond.selects "java/lang/String" y y ∈ xj_ws ∧ Cond.code y cy nLy rety ∈ xj_ws ∧ Cond.initialized y.cls ∈ xj_ws ∧ (y.cls ≠ "java/lang/invoke/MethodHandle" ∧ y.cls ≠ "java/lang/invoke/VarHandle") ∧ (parseMethodDescriptor y.desc).map (fun q => q.parameters.length) = some n
def xj_zq (o : xj_Rf) (F : Option xj_R) : Option xj_R := (xj_si o 100).bind fun _ => F
theorem xj_zq_i {o : xj_Rf} {F : Option xj_R} {K : Int32 → xj_H → Option xj_R} {r : xj_R} (h : xj_bi (xj_zq o F) K = some r) : (∃ i, xj_si o 100 = some i) ∧ xj_bi F K = some r := by
  unfold xj_zq at h
  cases hc : xj_si o 100 with
  | none => rw [hc] at h; cases h
  | some i => rw [hc] at h; exact ⟨⟨i, rfl⟩, h⟩
theorem xj_go_z (B : xj_B l y0 cc nL ret hs d z) {y : MethodName} {cy : ByteArray} {nLy n index : Nat} {rety : Option FieldType} {o : xj_Rf} {as : List Value} (hd : decode cc pc = .ok (.invokevirtual index, 3)) (hw : xj_zw y0.cls index y cy nLy rety n) (hn : as.length = n) (hq : ∃ i, xj_si o 100 = some i) : xj_go l z pc A y (xj_rv o :: as) := by
  obtain ⟨w1, w2, w3, w4, w5, w6, w7⟩ := hw
  refine ⟨_, by rw [List.length_cons, hn]; exact xj_inv_virtual B hd (Or.inl w1) w2 w3 w6 w7 ⟨_, w4, cy, nLy, rety, [], rfl⟩, fun ad H locs cells slots hI => ?_⟩
  obtain ⟨i, hi0⟩ := hq
  obtain ⟨hi, rfl⟩ := xj_si_inv hi0
  obtain ⟨cl0, h1, h2, h3⟩ := vk_recv B.S.1 hi hI.2.2.2.2.2.1
  exact ⟨(xf_g z).2.2.1 (100 + i), as.map (xj_v (xf_g z) ad), cl0, rfl, h1, h2, h3⟩
end Xspecial

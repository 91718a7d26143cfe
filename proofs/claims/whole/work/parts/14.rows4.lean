section Xmore
variable {l : Launch} {z : xj_F} {y0 : MethodName} {cc : ByteArray} {nL : Nat} {ret : Option FieldType} {hs : List (Nat × Nat × Nat × Nat)} {d pc : Nat} {ls : List (Nat × Value)} {st : List Value} {A : xj_H}
def xj_fu : Nat := 100000
def xj_rn (ty : FieldType) (v : Int32) (A : xj_H) : Option xj_R := if vp_nar ty v = v then some (.inl (some (.int v)), A) else none
theorem xg_cret (B : xj_B l y0 cc nL (some .char) hs d z) {x : Int32} (hd : decode cc pc = .ok (.ireturn, 1)) (h : xj_rn .char x A = some (xf_r z)) : xj_W l z pc ls [.int x] A := by
  intro ad H locs cells slots lz hI hls hst hlv
  unfold xj_rn at h
  by_cases hz : vp_nar .char x = x
  · rw [if_pos hz] at h
    have hr := (Option.some.inj h).symm
    have hn : narrow .char (.int x) = .int x := by
      have h9 : narrow .char (.int x) = .int (vp_nar .char x) := rfl
      rw [h9, hz]
    refine xw_mono (W.zret (ty := .char) (Qc := fun _ _ o t => o = .returned ((some (Value.int x)).map (xj_v (xf_g z) ad)) ∧ t.heap = H) (free := xj_al (xf_g z) (xf_d z) (xf_H z) (xf_s z)) B.1 B.2.1 B.2.2.2.1 hn (fun t ht _ => ⟨rfl, ht⟩) hI.2.2.2.2.2.1.2.2 hd B.2.2.2.2.1) (fun t ht => ?_)
    exact xj_ends hI hr (fun w hw => by cases hw; trivial) ht
  · rw [if_neg hz] at h
    cases h
theorem xg_bret (B : xj_B l y0 cc nL (some .byte) hs d z) {x : Int32} (hd : decode cc pc = .ok (.ireturn, 1)) (h : xj_rn .byte x A = some (xf_r z)) : xj_W l z pc ls [.int x] A := by
  intro ad H locs cells slots lz hI hls hst hlv
  unfold xj_rn at h
  by_cases hz : vp_nar .byte x = x
  · rw [if_pos hz] at h
    have hr := (Option.some.inj h).symm
    have hn : narrow .byte (.int x) = .int x := by
      have h9 : narrow .byte (.int x) = .int (vp_nar .byte x) := rfl
      rw [h9, hz]
    refine xw_mono (W.zret (ty := .byte) (Qc := fun _ _ o t => o = .returned ((some (Value.int x)).map (xj_v (xf_g z) ad)) ∧ t.heap = H) (free := xj_al (xf_g z) (xf_d z) (xf_H z) (xf_s z)) B.1 B.2.1 B.2.2.2.1 hn (fun t ht _ => ⟨rfl, ht⟩) hI.2.2.2.2.2.1.2.2 hd B.2.2.2.2.1) (fun t ht => ?_)
    exact xj_ends hI hr (fun w hw => by cases hw; trivial) ht
  · rw [if_neg hz] at h
    cases h
theorem xg_tsIn (B : xj_B l y0 cc nL ret hs d z) {dflt lo hi : Int} {offs : Array Int} {len : Nat} {x : Int32} {off : Int} {tgt : Nat} (hd : decode cc pc = .ok (.tableswitch dflt lo hi offs, len)) (h1 : ¬ x.toInt < lo) (h2 : ¬ hi < x.toInt) (ho : offs[(x.toInt - lo).toNat]? = some off) (ht : (pc : Int) + off = (tgt : Int)) (k : xj_W l z tgt ls st A) : xj_W l z pc ls (.int x :: st) A := by
  intro ad H locs cells slots lz hI hls hst hlv
  exact lv_tableIn B.1 B.2.1 hd h1 h2 ho ht (k ad H locs cells slots lz hI hls hst.2 hlv)
theorem xg_tsOut (B : xj_B l y0 cc nL ret hs d z) {dflt lo hi : Int} {offs : Array Int} {len : Nat} {x : Int32} {tgt : Nat} (hd : decode cc pc = .ok (.tableswitch dflt lo hi offs, len)) (h1 : x.toInt < lo ∨ hi < x.toInt) (ht : (pc : Int) + dflt = (tgt : Int)) (k : xj_W l z tgt ls st A) : xj_W l z pc ls (.int x :: st) A := by
  intro ad H locs cells slots lz hI hls hst hlv
  exact lv_tableOut B.1 B.2.1 hd h1 ht (k ad H locs cells slots lz hI hls hst.2 hlv)
theorem xj_ifn {x y : String} {P : Option xj_R} {r : xj_R} (h : (if x = y then P else none) = some r) : x = y ∧ P = some r := by
  by_cases hc : x = y
  · rw [if_pos hc] at h; exact ⟨hc, h⟩
  · rw [if_neg hc] at h; cases h
theorem xj_ic (x : Int32) : (Value.int x).category = 1 := rfl
theorem xj_lc (x : Int64) : (Value.long x).category = 2 := rfl
theorem xj_nq {a i : Nat} {P : Prop} (hn : ¬ a + 1 = i) : a + 1 = i → P := fun h => absurd h hn
theorem xj_inc_1 (x : Int32) : x + Int32.ofInt 1 = x + 1 := rfl
theorem xj_inc_7 (x : Int32) : x + Int32.ofInt 7 = x + 7 := rfl
theorem xj_inc_m1 (x : Int32) : x + Int32.ofInt (-1) = x - 1 := by
  rw [show Int32.ofInt (-1) = -1 from by decide, Int32.sub_eq_add_neg]
end Xmore

def fL_law_870 (xs : Nat → Int32) (L : Nat) (k23 : xj_Rf → xj_Rf → xj_Rf → Int32 → xj_H → Option xj_R) (v1 : xj_Rf) (v2 : xj_Rf) (v3 : xj_Rf) (v4 : Int32) (A : xj_H) : Option xj_R :=
  k23 v1 v2 v3 (v4 + 7) A
def fL_law_867 (xs : Nat → Int32) (L : Nat) (k23 : xj_Rf → xj_Rf → xj_Rf → Int32 → xj_H → Option xj_R) (v1 : xj_Rf) (v2 : xj_Rf) (v3 : xj_Rf) (v4 : Int32) (A : xj_H) : Option xj_R :=
  fL_law_870 xs L k23 v1 v2 v3 v4 A
def fL_law_799 (xs : Nat → Int32) (L : Nat) (k23 : xj_Rf → xj_Rf → xj_Rf → Int32 → xj_H → Option xj_R) (v1 : xj_Rf) (v2 : xj_Rf) (v3 : xj_Rf) (v4 : Int32) (A : xj_H) : Option xj_R :=
  fL_law_870 xs L k23 v1 v2 v3 v4 A
def fL_law_766 (xs : Nat → Int32) (L : Nat) (k23 : xj_Rf → xj_Rf → xj_Rf → Int32 → xj_H → Option xj_R) (v1 : xj_Rf) (v2 : xj_Rf) (v3 : xj_Rf) (v4 : Int32) (v5 : Int32) (s0 : Int32) (s1 : Int32) (s2 : xj_Rf) (A : xj_H) : Option xj_R :=
  xj_bi (xj_rq A s2 7 (fM_span s2 s1 s0 A)) fun x1 A2 =>
  xj_bi (xj_rq A2 v2 7 (fM_thrown v2 A2)) fun x3 A4 =>
  if x3 = v5 then
    if ¬ v5 = 0 then
      fL_law_799 xs L k23 v1 v2 v3 v4 A4
    else
      (xj_lai A4 v3 (0 : Int32)).bind fun x5 =>
      if (lg_cmp x5 (Int32.toInt64 x1)) = 0 then
        fL_law_799 xs L k23 v1 v2 v3 v4 A4
      else
        xj_rz (0 : Int32) A4
  else
    xj_rz (0 : Int32) A4
def fL_law_739 (xs : Nat → Int32) (L : Nat) (k23 : xj_Rf → xj_Rf → xj_Rf → Int32 → xj_H → Option xj_R) (v1 : xj_Rf) (v2 : xj_Rf) (v3 : xj_Rf) (v4 : Int32) (s0 : Int32) (s1 : Int32) (s2 : xj_Rf) (A : xj_H) : Option xj_R :=
  xj_bi (fL_span s2 s1 s0 v3 A) fun x1 A2 =>
  (xj_sc xs L (v4 + (1 : Int32))).bind fun x3 =>
  (xj_sc xs L (v4 + (2 : Int32))).bind fun x4 =>
  if x4 = 0 then
    fL_law_766 xs L k23 v1 v2 v3 v4 x1 (0 : Int32) x3 v2 A2
  else
    fL_law_766 xs L k23 v1 v2 v3 v4 x1 (1 : Int32) x3 v2 A2
def fL_law_715 (xs : Nat → Int32) (L : Nat) (k23 : xj_Rf → xj_Rf → xj_Rf → Int32 → xj_H → Option xj_R) (v1 : xj_Rf) (v2 : xj_Rf) (v3 : xj_Rf) (v4 : Int32) (A : xj_H) : Option xj_R :=
  fL_law_870 xs L k23 v1 v2 v3 v4 A
def fL_law_573 (xs : Nat → Int32) (L : Nat) (k23 : xj_Rf → xj_Rf → xj_Rf → Int32 → xj_H → Option xj_R) (v1 : xj_Rf) (v2 : xj_Rf) (v3 : xj_Rf) (v4 : Int32) (A : xj_H) : Option xj_R :=
  fL_law_870 xs L k23 v1 v2 v3 v4 A
def fL_law_505 (xs : Nat → Int32) (L : Nat) (k23 : xj_Rf → xj_Rf → xj_Rf → Int32 → xj_H → Option xj_R) (v1 : xj_Rf) (v2 : xj_Rf) (v3 : xj_Rf) (v4 : Int32) (A : xj_H) : Option xj_R :=
  fL_law_870 xs L k23 v1 v2 v3 v4 A
def fL_law_437 (xs : Nat → Int32) (L : Nat) (k23 : xj_Rf → xj_Rf → xj_Rf → Int32 → xj_H → Option xj_R) (v1 : xj_Rf) (v2 : xj_Rf) (v3 : xj_Rf) (v4 : Int32) (A : xj_H) : Option xj_R :=
  fL_law_870 xs L k23 v1 v2 v3 v4 A
def fL_law_381 (xs : Nat → Int32) (L : Nat) (k23 : xj_Rf → xj_Rf → xj_Rf → Int32 → xj_H → Option xj_R) (v1 : xj_Rf) (v2 : xj_Rf) (v3 : xj_Rf) (v4 : Int32) (A : xj_H) : Option xj_R :=
  fL_law_870 xs L k23 v1 v2 v3 v4 A
def fL_law_375 (xs : Nat → Int32) (L : Nat) (k23 : xj_Rf → xj_Rf → xj_Rf → Int32 → xj_H → Option xj_R) (v1 : xj_Rf) (v2 : xj_Rf) (v3 : xj_Rf) (v4 : Int32) (s0 : Int64) (s1 : Int64) (A : xj_H) : Option xj_R :=
  if (lg_cmp s1 s0) = 0 then
    fL_law_381 xs L k23 v1 v2 v3 v4 A
  else
    xj_rz (0 : Int32) A
def fL_law_306 (xs : Nat → Int32) (L : Nat) (k23 : xj_Rf → xj_Rf → xj_Rf → Int32 → xj_H → Option xj_R) (v1 : xj_Rf) (v2 : xj_Rf) (v3 : xj_Rf) (v4 : Int32) (A : xj_H) : Option xj_R :=
  fL_law_870 xs L k23 v1 v2 v3 v4 A
def fL_law_23 (xs : Nat → Int32) (L : Nat) : Nat → xj_Rf → xj_Rf → xj_Rf → Int32 → xj_H → Option xj_R
  | 0, _, _, _, _, _ => none
  | n + 1, v1, v2, v3, v4, A =>
    if ((Int32.ofNat L) - (7 : Int32)) < v4 then
      xj_rz (1 : Int32) A
    else
      (xj_sc xs L v4).bind fun x2 =>
      if (x2 &&& (15 : Int32)) = 0 then
        (xj_sc xs L (v4 + (1 : Int32))).bind fun x3 =>
        xj_bi (xj_rq A v1 0 (fB_type v1 ((Int32.toUInt32 x3 % 65536).toInt32) A)) fun x4 A5 =>
        (xj_sc xs L (v4 + (1 : Int32))).bind fun x6 =>
        xj_bi (xj_rq A5 v2 7 (fM_type v2 ((Int32.toUInt32 x6 % 65536).toInt32) A5)) fun x7 A8 =>
        if x4 = x7 then
          fL_law_870 xs L (fL_law_23 xs L n) v1 v2 v3 v4 A8
        else
          xj_rz (0 : Int32) A8
      else if (x2 &&& (15 : Int32)) = 1 then
        (xj_sc xs L (v4 + (1 : Int32))).bind fun x9 =>
        (xj_sc xs L (v4 + (2 : Int32))).bind fun x10 =>
        (xj_sc xs L (v4 + (3 : Int32))).bind fun x11 =>
        (xj_sc xs L (v4 + (4 : Int32))).bind fun x12 =>
        (xj_sc xs L (v4 + (5 : Int32))).bind fun x13 =>
        (xj_sc xs L (v4 + (6 : Int32))).bind fun x14 =>
        xj_bi (fL_zone v1 x9 x10 x11 x12 x13 x14 A) fun x15 A16 =>
        (xj_sc xs L (v4 + (1 : Int32))).bind fun x17 =>
        (xj_sc xs L (v4 + (2 : Int32))).bind fun x18 =>
        (xj_sc xs L (v4 + (3 : Int32))).bind fun x19 =>
        (xj_sc xs L (v4 + (4 : Int32))).bind fun x20 =>
        (xj_sc xs L (v4 + (5 : Int32))).bind fun x21 =>
        (xj_sc xs L (v4 + (6 : Int32))).bind fun x22 =>
        xj_bv (xj_rq A16 v2 7 (fM_zone v2 x17 x18 x19 x20 x21 x22 A16)) fun A23 =>
        xj_bi (xj_rq A23 v2 7 (fM_thrown v2 A23)) fun x24 A25 =>
        if x24 = x15 then
          fL_law_870 xs L (fL_law_23 xs L n) v1 v2 v3 v4 A25
        else
          xj_rz (0 : Int32) A25
      else if (x2 &&& (15 : Int32)) = 2 then
        (xj_sc xs L (v4 + (1 : Int32))).bind fun x26 =>
        (xj_sc xs L (v4 + (2 : Int32))).bind fun x27 =>
        (xj_sc xs L (v4 + (3 : Int32))).bind fun x28 =>
        xj_bi (fL_event v1 x26 x27 x28 v3 A) fun x29 A30 =>
        (xj_sc xs L (v4 + (1 : Int32))).bind fun x31 =>
        (xj_sc xs L (v4 + (2 : Int32))).bind fun x32 =>
        (xj_sc xs L (v4 + (3 : Int32))).bind fun x33 =>
        xj_bi (xj_rq A30 v2 7 (fM_event v2 x31 x32 x33 A30)) fun x34 A35 =>
        xj_bi (xj_rq A35 v2 7 (fM_thrown v2 A35)) fun x36 A37 =>
        if x36 = x29 then
          if ¬ x29 = 0 then
            fL_law_306 xs L (fL_law_23 xs L n) v1 v2 v3 v4 A37
          else
            (xj_lai A37 v3 (0 : Int32)).bind fun x38 =>
            if (lg_cmp x38 (Int32.toInt64 x34)) = 0 then
              fL_law_306 xs L (fL_law_23 xs L n) v1 v2 v3 v4 A37
            else
              xj_rz (0 : Int32) A37
        else
          xj_rz (0 : Int32) A37
      else if (x2 &&& (15 : Int32)) = 3 then
        (xj_sc xs L (v4 + (1 : Int32))).bind fun x39 =>
        (xj_sc xs L (v4 + (2 : Int32))).bind fun x40 =>
        xj_bi (fL_exclude v1 x39 x40 v3 A) fun x41 A42 =>
        (xj_sc xs L (v4 + (1 : Int32))).bind fun x43 =>
        (xj_sc xs L (v4 + (2 : Int32))).bind fun x44 =>
        xj_bi (xj_rq A42 v2 7 (fM_exclude v2 x43 x44 A42)) fun x45 A46 =>
        xj_bi (xj_rq A46 v2 7 (fM_thrown v2 A46)) fun x47 A48 =>
        if x47 = x41 then
          if ¬ x41 = 0 then
            fL_law_381 xs L (fL_law_23 xs L n) v1 v2 v3 v4 A48
          else
            (xj_lai A48 v3 (0 : Int32)).bind fun x49 =>
            if x45 = 0 then
              fL_law_375 xs L (fL_law_23 xs L n) v1 v2 v3 v4 (0 : Int64) x49 A48
            else
              fL_law_375 xs L (fL_law_23 xs L n) v1 v2 v3 v4 (1 : Int64) x49 A48
        else
          xj_rz (0 : Int32) A48
      else if (x2 &&& (15 : Int32)) = 4 then
        (xj_sc xs L (v4 + (1 : Int32))).bind fun x50 =>
        xj_bi (fL_times v1 x50 v3 A) fun x51 A52 =>
        (xj_sc xs L (v4 + (1 : Int32))).bind fun x53 =>
        xj_bi (xj_rq A52 v2 7 (fM_times v2 x53 A52)) fun x54 A55 =>
        xj_bi (xj_rq A55 v2 7 (fM_thrown v2 A55)) fun x56 A57 =>
        if x56 = x51 then
          if ¬ x51 = 0 then
            fL_law_437 xs L (fL_law_23 xs L n) v1 v2 v3 v4 A57
          else
            (xj_lai A57 v3 (0 : Int32)).bind fun x58 =>
            if (lg_cmp x58 (Int32.toInt64 x54)) = 0 then
              fL_law_437 xs L (fL_law_23 xs L n) v1 v2 v3 v4 A57
            else
              xj_rz (0 : Int32) A57
        else
          xj_rz (0 : Int32) A57
      else if (x2 &&& (15 : Int32)) = 5 then
        (xj_sc xs L (v4 + (1 : Int32))).bind fun x59 =>
        (xj_sc xs L (v4 + (2 : Int32))).bind fun x60 =>
        xj_bi (fL_day v1 x59 x60 v3 A) fun x61 A62 =>
        (xj_sc xs L (v4 + (1 : Int32))).bind fun x63 =>
        (xj_sc xs L (v4 + (2 : Int32))).bind fun x64 =>
        xj_bi (xj_rq A62 v2 7 (fM_day v2 x63 x64 A62)) fun x65 A66 =>
        xj_bi (xj_rq A66 v2 7 (fM_thrown v2 A66)) fun x67 A68 =>
        if x67 = x61 then
          if ¬ x61 = 0 then
            fL_law_505 xs L (fL_law_23 xs L n) v1 v2 v3 v4 A68
          else
            (xj_lai A68 v3 (0 : Int32)).bind fun x69 =>
            if (lg_cmp x69 (Int32.toInt64 x65)) = 0 then
              fL_law_505 xs L (fL_law_23 xs L n) v1 v2 v3 v4 A68
            else
              xj_rz (0 : Int32) A68
        else
          xj_rz (0 : Int32) A68
      else if (x2 &&& (15 : Int32)) = 6 then
        (xj_sc xs L (v4 + (1 : Int32))).bind fun x70 =>
        (xj_sc xs L (v4 + (2 : Int32))).bind fun x71 =>
        xj_bi (fL_moment v1 x70 x71 v3 A) fun x72 A73 =>
        (xj_sc xs L (v4 + (1 : Int32))).bind fun x74 =>
        (xj_sc xs L (v4 + (2 : Int32))).bind fun x75 =>
        xj_bi (xj_rq A73 v2 7 (fM_moment v2 x74 x75 A73)) fun x76 A77 =>
        xj_bi (xj_rq A77 v2 7 (fM_thrown v2 A77)) fun x78 A79 =>
        if x78 = x72 then
          if ¬ x72 = 0 then
            fL_law_573 xs L (fL_law_23 xs L n) v1 v2 v3 v4 A79
          else
            (xj_lai A79 v3 (0 : Int32)).bind fun x80 =>
            if (lg_cmp x80 (Int32.toInt64 x76)) = 0 then
              fL_law_573 xs L (fL_law_23 xs L n) v1 v2 v3 v4 A79
            else
              xj_rz (0 : Int32) A79
        else
          xj_rz (0 : Int32) A79
      else if (x2 &&& (15 : Int32)) = 7 then
        (xj_sc xs L (v4 + (1 : Int32))).bind fun x81 =>
        xj_bi (xj_rq A v1 0 (fB_local v1 x81 A)) fun x82 A83 =>
        (xj_sc xs L (v4 + (1 : Int32))).bind fun x84 =>
        xj_bi (xj_rq A83 v2 7 (fM_local v2 x84 A83)) fun x85 A86 =>
        if x82 = x85 then
          fL_law_870 xs L (fL_law_23 xs L n) v1 v2 v3 v4 A86
        else
          xj_rz (0 : Int32) A86
      else if (x2 &&& (15 : Int32)) = 8 then
        (xj_sc xs L (v4 + (1 : Int32))).bind fun x87 =>
        (xj_sc xs L (v4 + (2 : Int32))).bind fun x88 =>
        (xj_sc xs L (v4 + (3 : Int32))).bind fun x89 =>
        xj_bi (xj_rq A v1 0 (fB_date v1 x87 x88 x89 A)) fun x90 A91 =>
        (xj_sc xs L (v4 + (1 : Int32))).bind fun x92 =>
        (xj_sc xs L (v4 + (2 : Int32))).bind fun x93 =>
        (xj_sc xs L (v4 + (3 : Int32))).bind fun x94 =>
        xj_bi (xj_rq A91 v2 7 (fM_date v2 x92 x93 x94 A91)) fun x95 A96 =>
        if x90 = x95 then
          fL_law_870 xs L (fL_law_23 xs L n) v1 v2 v3 v4 A96
        else
          xj_rz (0 : Int32) A96
      else if (x2 &&& (15 : Int32)) = 9 then
        (xj_sc xs L (v4 + (1 : Int32))).bind fun x97 =>
        (xj_sc xs L (v4 + (2 : Int32))).bind fun x98 =>
        xj_bi (fL_busy v1 x97 x98 v3 A) fun x99 A100 =>
        (xj_sc xs L (v4 + (1 : Int32))).bind fun x101 =>
        (xj_sc xs L (v4 + (2 : Int32))).bind fun x102 =>
        xj_bi (xj_rq A100 v2 7 (fM_busy v2 x101 x102 A100)) fun x103 A104 =>
        xj_bi (xj_rq A104 v2 7 (fM_thrown v2 A104)) fun x105 A106 =>
        if x105 = x99 then
          if ¬ x99 = 0 then
            fL_law_715 xs L (fL_law_23 xs L n) v1 v2 v3 v4 A106
          else
            (xj_lai A106 v3 (0 : Int32)).bind fun x107 =>
            if (lg_cmp x107 (Int32.toInt64 x103)) = 0 then
              fL_law_715 xs L (fL_law_23 xs L n) v1 v2 v3 v4 A106
            else
              xj_rz (0 : Int32) A106
        else
          xj_rz (0 : Int32) A106
      else if (x2 &&& (15 : Int32)) = 10 then
        (xj_sc xs L (v4 + (1 : Int32))).bind fun x108 =>
        (xj_sc xs L (v4 + (2 : Int32))).bind fun x109 =>
        if x109 = 0 then
          fL_law_739 xs L (fL_law_23 xs L n) v1 v2 v3 v4 (0 : Int32) x108 v1 A
        else
          fL_law_739 xs L (fL_law_23 xs L n) v1 v2 v3 v4 (1 : Int32) x108 v1 A
      else if (x2 &&& (15 : Int32)) = 11 then
        (xj_sc xs L (v4 + (1 : Int32))).bind fun x110 =>
        (xj_sc xs L (v4 + (2 : Int32))).bind fun x111 =>
        xj_bi (fL_clash v1 x110 x111 v3 A) fun x112 A113 =>
        (xj_sc xs L (v4 + (1 : Int32))).bind fun x114 =>
        (xj_sc xs L (v4 + (2 : Int32))).bind fun x115 =>
        xj_bi (xj_rq A113 v2 7 (fM_clash v2 x114 x115 A113)) fun x116 A117 =>
        xj_bi (xj_rq A117 v2 7 (fM_thrown v2 A117)) fun x118 A119 =>
        if x118 = x112 then
          if ¬ x112 = 0 then
            fL_law_867 xs L (fL_law_23 xs L n) v1 v2 v3 v4 A119
          else
            (xj_lai A119 v3 (0 : Int32)).bind fun x120 =>
            if (lg_cmp x120 (Int32.toInt64 x116)) = 0 then
              fL_law_867 xs L (fL_law_23 xs L n) v1 v2 v3 v4 A119
            else
              xj_rz (0 : Int32) A119
        else
          xj_rz (0 : Int32) A119
      else 
        fL_law_870 xs L (fL_law_23 xs L n) v1 v2 v3 v4 A
def fL_law (xs : Nat → Int32) (L : Nat) (A : xj_H) : Option xj_R :=
  (xj_mk A (.inr (0, [.null, .int 0, .null, .null, .int 0, .null, .null])) 7).bind fun A1 =>
  xj_bv (fB_init (xj_o A.1.length) A1) fun A2 =>
  (xj_mk A2 (.inr (7, [.int 0, .null, .int 0, .int 0, .int 0, .null, .null, .int 0, .null, .null, .null, .null, .null, .null, .int 0, .int 0, .int 0, .int 0, .int 0, .int 0, .null, .null, .int 0, .null, .null, .int 0, .int 0, .int 0, .int 0, .int 0, .int 0, .int 0, .int 0, .int 0, .null, .null])) 36).bind fun A3 =>
  xj_bv (fM_init (xj_o A2.1.length) A3) fun A4 =>
  (xj_mk A4 (.inl (3, 1, .inr (.inl (fun _ => 0)))) 1).bind fun A5 =>
  fL_law_23 xs L xj_fu (xj_o A.1.length) (xj_o A2.1.length) (xj_o A4.1.length) (0 : Int32) A5
set_option maxHeartbeats 4000000 in
theorem wL_law_870 {l : Launch} (hl : l.stackTraces = false) {z : xj_F} (B : xj_B l yL_law code 7 (some .boolean) [] 12 z) (k23 : xj_Rf → xj_Rf → xj_Rf → Int32 → xj_H → Option xj_R) (hk23 : ∀ (v1 : xj_Rf) (v2 : xj_Rf) (v3 : xj_Rf) (v4 : Int32) (A : xj_H), k23 v1 v2 v3 v4 A = some (xf_r z) → xj_W l z 23 [(0, xj_rv (some (.inr 200))), (1, xj_rv v1), (2, xj_rv v2), (3, xj_rv v3), (4, .int v4)] [] A) (v1 : xj_Rf) (v2 : xj_Rf) (v3 : xj_Rf) (v4 : Int32) (A : xj_H) (h : fL_law_870 (xf_g z).2.2.2.1 (xf_g z).2.2.2.2 k23 v1 v2 v3 v4 A = some (xf_r z)) : xj_W l z 870 [(0, xj_rv (some (.inr 200))), (1, xj_rv v1), (2, xj_rv v2), (3, xj_rv v3), (4, .int v4)] [] A := by
  unfold fL_law_870 at h
  refine xg_iinc (pc := 870) (i := 4) (v := (v4 + 7)) (ls' := [(4, .int (v4 + 7)), (0, xj_rv (some (.inr 200))), (1, xj_rv v1), (2, xj_rv v2), (3, xj_rv v3)]) B dL_law_870 rfl (xj_inc_7 _) (by decide) ⟨xj_nq (a := 0) (i := 4) (by decide), xj_nq (a := 1) (i := 4) (by decide), xj_nq (a := 2) (i := 4) (by decide), fun _ => xj_rv_cat v3, xj_nq (a := 4) (i := 4) (by decide), trivial⟩ rfl ?_
  refine xg_goto (pc := 873) (tgt := 23) B dL_law_873 (by decide) ?_
  refine xg_sub (ls' := [(0, xj_rv (some (.inr 200))), (1, xj_rv v1), (2, xj_rv v2), (3, xj_rv v3), (4, .int (v4 + 7))]) [1, 2, 3, 4, 0] rfl ?_
  exact hk23 _ _ _ _ _ h
set_option maxHeartbeats 4000000 in
theorem wL_law_867 {l : Launch} (hl : l.stackTraces = false) {z : xj_F} (B : xj_B l yL_law code 7 (some .boolean) [] 12 z) (k23 : xj_Rf → xj_Rf → xj_Rf → Int32 → xj_H → Option xj_R) (hk23 : ∀ (v1 : xj_Rf) (v2 : xj_Rf) (v3 : xj_Rf) (v4 : Int32) (A : xj_H), k23 v1 v2 v3 v4 A = some (xf_r z) → xj_W l z 23 [(0, xj_rv (some (.inr 200))), (1, xj_rv v1), (2, xj_rv v2), (3, xj_rv v3), (4, .int v4)] [] A) (v1 : xj_Rf) (v2 : xj_Rf) (v3 : xj_Rf) (v4 : Int32) (A : xj_H) (h : fL_law_867 (xf_g z).2.2.2.1 (xf_g z).2.2.2.2 k23 v1 v2 v3 v4 A = some (xf_r z)) : xj_W l z 867 [(0, xj_rv (some (.inr 200))), (1, xj_rv v1), (2, xj_rv v2), (3, xj_rv v3), (4, .int v4)] [] A := by
  unfold fL_law_867 at h
  refine xg_goto (pc := 867) (tgt := 870) B dL_law_867 (by decide) ?_
  exact wL_law_870 hl B _ hk23 _ _ _ _ _ h
set_option maxHeartbeats 4000000 in
theorem wL_law_799 {l : Launch} (hl : l.stackTraces = false) {z : xj_F} (B : xj_B l yL_law code 7 (some .boolean) [] 12 z) (k23 : xj_Rf → xj_Rf → xj_Rf → Int32 → xj_H → Option xj_R) (hk23 : ∀ (v1 : xj_Rf) (v2 : xj_Rf) (v3 : xj_Rf) (v4 : Int32) (A : xj_H), k23 v1 v2 v3 v4 A = some (xf_r z) → xj_W l z 23 [(0, xj_rv (some (.inr 200))), (1, xj_rv v1), (2, xj_rv v2), (3, xj_rv v3), (4, .int v4)] [] A) (v1 : xj_Rf) (v2 : xj_Rf) (v3 : xj_Rf) (v4 : Int32) (A : xj_H) (h : fL_law_799 (xf_g z).2.2.2.1 (xf_g z).2.2.2.2 k23 v1 v2 v3 v4 A = some (xf_r z)) : xj_W l z 799 [(0, xj_rv (some (.inr 200))), (1, xj_rv v1), (2, xj_rv v2), (3, xj_rv v3), (4, .int v4)] [] A := by
  unfold fL_law_799 at h
  refine xg_goto (pc := 799) (tgt := 870) B dL_law_799 (by decide) ?_
  exact wL_law_870 hl B _ hk23 _ _ _ _ _ h
set_option maxHeartbeats 4000000 in
theorem wL_law_766 {l : Launch} (hl : l.stackTraces = false) {z : xj_F} (B : xj_B l yL_law code 7 (some .boolean) [] 12 z) (k23 : xj_Rf → xj_Rf → xj_Rf → Int32 → xj_H → Option xj_R) (hk23 : ∀ (v1 : xj_Rf) (v2 : xj_Rf) (v3 : xj_Rf) (v4 : Int32) (A : xj_H), k23 v1 v2 v3 v4 A = some (xf_r z) → xj_W l z 23 [(0, xj_rv (some (.inr 200))), (1, xj_rv v1), (2, xj_rv v2), (3, xj_rv v3), (4, .int v4)] [] A) (v1 : xj_Rf) (v2 : xj_Rf) (v3 : xj_Rf) (v4 : Int32) (v5 : Int32) (s0 : Int32) (s1 : Int32) (s2 : xj_Rf) (A : xj_H) (h : fL_law_766 (xf_g z).2.2.2.1 (xf_g z).2.2.2.2 k23 v1 v2 v3 v4 v5 s0 s1 s2 A = some (xf_r z)) : xj_W l z 766 [(0, xj_rv (some (.inr 200))), (1, xj_rv v1), (2, xj_rv v2), (3, xj_rv v3), (4, .int v4), (5, .int v5)] [.int s0, .int s1, xj_rv s2] A := by
  unfold fL_law_766 at h
  obtain ⟨hq766, h⟩ := xj_rq_i h
  refine xg_ci (pc := 766) (av := [xj_rv s2, .int s1, .int s0]) (st := []) (cy := prog_11_method_48_code) (nLy := 3) (rety := (some .int)) (hsy := []) B dL_law_766 (xj_go_v B dL_law_766 vwL_99 rfl hq766) (xj_vw_c vwL_99) (xj_vw_i vwL_99) (by decide) (by decide) (by decide) rfl (fun r9 h9 => cM_span hl _ _ _ _ r9 h9) h (fun x1 A2 eA2 h => ?_)
  refine xg_istore (pc := 769) (i := 6) (ls' := [(6, .int x1), (0, xj_rv (some (.inr 200))), (1, xj_rv v1), (2, xj_rv v2), (3, xj_rv v3), (4, .int v4), (5, .int v5)]) B dL_law_769 (by decide) ⟨xj_nq (a := 0) (i := 6) (by decide), xj_nq (a := 1) (i := 6) (by decide), xj_nq (a := 2) (i := 6) (by decide), xj_nq (a := 3) (i := 6) (by decide), xj_nq (a := 4) (i := 6) (by decide), fun _ => rfl, trivial⟩ rfl ?_
  refine xg_aload_n (pc := 771) (i := 2) (r := v2) B dL_law_771 rfl rfl ?_
  obtain ⟨hq772, h⟩ := xj_rq_i h
  refine xg_ci (pc := 772) (av := [xj_rv v2]) (st := []) (cy := prog_11_method_2_code) (nLy := 1) (rety := (some .int)) (hsy := []) B dL_law_772 (xj_go_v B dL_law_772 vwL_63 rfl hq772) (xj_vw_c vwL_63) (xj_vw_i vwL_63) (by decide) (by decide) (by decide) rfl (fun r9 h9 => cM_thrown hl _ _ r9 h9) h (fun x3 A4 eA4 h => ?_)
  refine xg_iload (pc := 775) (i := 5) B dL_law_775 rfl ?_
  refine xg_icmp_eq (pc := 777) (tgt := 782) B dL_law_777 (by decide) h (fun c777 h => ?_) (fun c777 h => ?_)
  · refine xg_iload (pc := 782) (i := 5) B dL_law_782 rfl ?_
    refine xg_if_ne (pc := 784) (tgt := 799) B dL_law_784 (by decide) h (fun c784 h => ?_) (fun c784 h => ?_)
    · refine xg_sub (ls' := [(0, xj_rv (some (.inr 200))), (1, xj_rv v1), (2, xj_rv v2), (3, xj_rv v3), (4, .int v4)]) [1, 2, 3, 4, 5] rfl ?_
      exact wL_law_799 hl B _ hk23 _ _ _ _ _ h
    · refine xg_aload_n (pc := 787) (i := 3) (r := v3) B dL_law_787 rfl rfl ?_
      refine xg_iconst (pc := 788) (v := 0) B dL_law_788 (by decide) ?_
      refine xg_laload (pc := 789) B dL_law_789 h (fun x5 ex5 h => ?_)
      refine xg_iload (pc := 790) (i := 6) B dL_law_790 rfl ?_
      refine xg_i2l (pc := 792) B dL_law_792 ?_
      refine xg_lcmp (pc := 793) B dL_law_793 ?_
      refine xg_if_eq (pc := 794) (tgt := 799) B dL_law_794 (by decide) h (fun c794 h => ?_) (fun c794 h => ?_)
      · refine xg_sub (ls' := [(0, xj_rv (some (.inr 200))), (1, xj_rv v1), (2, xj_rv v2), (3, xj_rv v3), (4, .int v4)]) [1, 2, 3, 4, 5] rfl ?_
        exact wL_law_799 hl B _ hk23 _ _ _ _ _ h
      · refine xg_iconst (pc := 797) (v := 0) B dL_law_797 (by decide) ?_
        exact xg_zret B dL_law_798 h
  · refine xg_iconst (pc := 780) (v := 0) B dL_law_780 (by decide) ?_
    exact xg_zret B dL_law_781 h
set_option maxHeartbeats 4000000 in
theorem wL_law_739 {l : Launch} (hl : l.stackTraces = false) {z : xj_F} (B : xj_B l yL_law code 7 (some .boolean) [] 12 z) (k23 : xj_Rf → xj_Rf → xj_Rf → Int32 → xj_H → Option xj_R) (hk23 : ∀ (v1 : xj_Rf) (v2 : xj_Rf) (v3 : xj_Rf) (v4 : Int32) (A : xj_H), k23 v1 v2 v3 v4 A = some (xf_r z) → xj_W l z 23 [(0, xj_rv (some (.inr 200))), (1, xj_rv v1), (2, xj_rv v2), (3, xj_rv v3), (4, .int v4)] [] A) (v1 : xj_Rf) (v2 : xj_Rf) (v3 : xj_Rf) (v4 : Int32) (s0 : Int32) (s1 : Int32) (s2 : xj_Rf) (A : xj_H) (h : fL_law_739 (xf_g z).2.2.2.1 (xf_g z).2.2.2.2 k23 v1 v2 v3 v4 s0 s1 s2 A = some (xf_r z)) : xj_W l z 739 [(0, xj_rv (some (.inr 200))), (1, xj_rv v1), (2, xj_rv v2), (3, xj_rv v3), (4, .int v4)] [.int s0, .int s1, xj_rv s2] A := by
  unfold fL_law_739 at h
  refine xg_aload_n (pc := 739) (i := 3) (r := v3) B dL_law_739 rfl rfl ?_
  refine xg_ci (pc := 740) (av := [xj_rv s2, .int s1, .int s0, xj_rv v3]) (st := []) (cy := method_10_code) (nLy := 5) (rety := (some .int)) (hsy := [(0, 10, 13, 25)]) B dL_law_740 (xj_go_s B dL_law_740 swL_96 rfl) swL_96.2.2.1 swL_96.2.2.2.1 (by decide) (by decide) (by decide) rfl (fun r9 h9 => cL_span hl _ _ _ _ _ r9 h9) h (fun x1 A2 eA2 h => ?_)
  refine xg_istore (pc := 743) (i := 5) (ls' := [(5, .int x1), (0, xj_rv (some (.inr 200))), (1, xj_rv v1), (2, xj_rv v2), (3, xj_rv v3), (4, .int v4)]) B dL_law_743 (by decide) ⟨xj_nq (a := 0) (i := 5) (by decide), xj_nq (a := 1) (i := 5) (by decide), xj_nq (a := 2) (i := 5) (by decide), xj_nq (a := 3) (i := 5) (by decide), fun _ => rfl, trivial⟩ rfl ?_
  refine xg_aload_n (pc := 745) (i := 2) (r := v2) B dL_law_745 rfl rfl ?_
  refine xg_aload_n (pc := 746) (i := 0) (r := (some (.inr 200))) B dL_law_746 rfl rfl ?_
  refine xg_iload (pc := 747) (i := 4) B dL_law_747 rfl ?_
  refine xg_iconst (pc := 749) (v := 1) B dL_law_749 (by decide) ?_
  refine xg_iadd (pc := 750) B dL_law_750 ?_
  refine xg_sload (pc := 751) B dL_law_751 h (fun x3 ex3 h => ?_)
  refine xg_aload_n (pc := 752) (i := 0) (r := (some (.inr 200))) B dL_law_752 rfl rfl ?_
  refine xg_iload (pc := 753) (i := 4) B dL_law_753 rfl ?_
  refine xg_iconst (pc := 755) (v := 2) B dL_law_755 (by decide) ?_
  refine xg_iadd (pc := 756) B dL_law_756 ?_
  refine xg_sload (pc := 757) B dL_law_757 h (fun x4 ex4 h => ?_)
  refine xg_if_eq (pc := 758) (tgt := 765) B dL_law_758 (by decide) h (fun c758 h => ?_) (fun c758 h => ?_)
  · refine xg_iconst (pc := 765) (v := 0) B dL_law_765 (by decide) ?_
    refine xg_sub (ls' := [(0, xj_rv (some (.inr 200))), (1, xj_rv v1), (2, xj_rv v2), (3, xj_rv v3), (4, .int v4), (5, .int x1)]) [1, 2, 3, 4, 5, 0] rfl ?_
    exact wL_law_766 hl B _ hk23 _ _ _ _ _ _ _ _ _ h
  · refine xg_iconst (pc := 761) (v := 1) B dL_law_761 (by decide) ?_
    refine xg_goto (pc := 762) (tgt := 766) B dL_law_762 (by decide) ?_
    refine xg_sub (ls' := [(0, xj_rv (some (.inr 200))), (1, xj_rv v1), (2, xj_rv v2), (3, xj_rv v3), (4, .int v4), (5, .int x1)]) [1, 2, 3, 4, 5, 0] rfl ?_
    exact wL_law_766 hl B _ hk23 _ _ _ _ _ _ _ _ _ h
set_option maxHeartbeats 4000000 in
theorem wL_law_715 {l : Launch} (hl : l.stackTraces = false) {z : xj_F} (B : xj_B l yL_law code 7 (some .boolean) [] 12 z) (k23 : xj_Rf → xj_Rf → xj_Rf → Int32 → xj_H → Option xj_R) (hk23 : ∀ (v1 : xj_Rf) (v2 : xj_Rf) (v3 : xj_Rf) (v4 : Int32) (A : xj_H), k23 v1 v2 v3 v4 A = some (xf_r z) → xj_W l z 23 [(0, xj_rv (some (.inr 200))), (1, xj_rv v1), (2, xj_rv v2), (3, xj_rv v3), (4, .int v4)] [] A) (v1 : xj_Rf) (v2 : xj_Rf) (v3 : xj_Rf) (v4 : Int32) (A : xj_H) (h : fL_law_715 (xf_g z).2.2.2.1 (xf_g z).2.2.2.2 k23 v1 v2 v3 v4 A = some (xf_r z)) : xj_W l z 715 [(0, xj_rv (some (.inr 200))), (1, xj_rv v1), (2, xj_rv v2), (3, xj_rv v3), (4, .int v4)] [] A := by
  unfold fL_law_715 at h
  refine xg_goto (pc := 715) (tgt := 870) B dL_law_715 (by decide) ?_
  exact wL_law_870 hl B _ hk23 _ _ _ _ _ h
set_option maxHeartbeats 4000000 in
theorem wL_law_573 {l : Launch} (hl : l.stackTraces = false) {z : xj_F} (B : xj_B l yL_law code 7 (some .boolean) [] 12 z) (k23 : xj_Rf → xj_Rf → xj_Rf → Int32 → xj_H → Option xj_R) (hk23 : ∀ (v1 : xj_Rf) (v2 : xj_Rf) (v3 : xj_Rf) (v4 : Int32) (A : xj_H), k23 v1 v2 v3 v4 A = some (xf_r z) → xj_W l z 23 [(0, xj_rv (some (.inr 200))), (1, xj_rv v1), (2, xj_rv v2), (3, xj_rv v3), (4, .int v4)] [] A) (v1 : xj_Rf) (v2 : xj_Rf) (v3 : xj_Rf) (v4 : Int32) (A : xj_H) (h : fL_law_573 (xf_g z).2.2.2.1 (xf_g z).2.2.2.2 k23 v1 v2 v3 v4 A = some (xf_r z)) : xj_W l z 573 [(0, xj_rv (some (.inr 200))), (1, xj_rv v1), (2, xj_rv v2), (3, xj_rv v3), (4, .int v4)] [] A := by
  unfold fL_law_573 at h
  refine xg_goto (pc := 573) (tgt := 870) B dL_law_573 (by decide) ?_
  exact wL_law_870 hl B _ hk23 _ _ _ _ _ h
set_option maxHeartbeats 4000000 in
theorem wL_law_505 {l : Launch} (hl : l.stackTraces = false) {z : xj_F} (B : xj_B l yL_law code 7 (some .boolean) [] 12 z) (k23 : xj_Rf → xj_Rf → xj_Rf → Int32 → xj_H → Option xj_R) (hk23 : ∀ (v1 : xj_Rf) (v2 : xj_Rf) (v3 : xj_Rf) (v4 : Int32) (A : xj_H), k23 v1 v2 v3 v4 A = some (xf_r z) → xj_W l z 23 [(0, xj_rv (some (.inr 200))), (1, xj_rv v1), (2, xj_rv v2), (3, xj_rv v3), (4, .int v4)] [] A) (v1 : xj_Rf) (v2 : xj_Rf) (v3 : xj_Rf) (v4 : Int32) (A : xj_H) (h : fL_law_505 (xf_g z).2.2.2.1 (xf_g z).2.2.2.2 k23 v1 v2 v3 v4 A = some (xf_r z)) : xj_W l z 505 [(0, xj_rv (some (.inr 200))), (1, xj_rv v1), (2, xj_rv v2), (3, xj_rv v3), (4, .int v4)] [] A := by
  unfold fL_law_505 at h
  refine xg_goto (pc := 505) (tgt := 870) B dL_law_505 (by decide) ?_
  exact wL_law_870 hl B _ hk23 _ _ _ _ _ h
set_option maxHeartbeats 4000000 in
theorem wL_law_437 {l : Launch} (hl : l.stackTraces = false) {z : xj_F} (B : xj_B l yL_law code 7 (some .boolean) [] 12 z) (k23 : xj_Rf → xj_Rf → xj_Rf → Int32 → xj_H → Option xj_R) (hk23 : ∀ (v1 : xj_Rf) (v2 : xj_Rf) (v3 : xj_Rf) (v4 : Int32) (A : xj_H), k23 v1 v2 v3 v4 A = some (xf_r z) → xj_W l z 23 [(0, xj_rv (some (.inr 200))), (1, xj_rv v1), (2, xj_rv v2), (3, xj_rv v3), (4, .int v4)] [] A) (v1 : xj_Rf) (v2 : xj_Rf) (v3 : xj_Rf) (v4 : Int32) (A : xj_H) (h : fL_law_437 (xf_g z).2.2.2.1 (xf_g z).2.2.2.2 k23 v1 v2 v3 v4 A = some (xf_r z)) : xj_W l z 437 [(0, xj_rv (some (.inr 200))), (1, xj_rv v1), (2, xj_rv v2), (3, xj_rv v3), (4, .int v4)] [] A := by
  unfold fL_law_437 at h
  refine xg_goto (pc := 437) (tgt := 870) B dL_law_437 (by decide) ?_
  exact wL_law_870 hl B _ hk23 _ _ _ _ _ h
set_option maxHeartbeats 4000000 in
theorem wL_law_381 {l : Launch} (hl : l.stackTraces = false) {z : xj_F} (B : xj_B l yL_law code 7 (some .boolean) [] 12 z) (k23 : xj_Rf → xj_Rf → xj_Rf → Int32 → xj_H → Option xj_R) (hk23 : ∀ (v1 : xj_Rf) (v2 : xj_Rf) (v3 : xj_Rf) (v4 : Int32) (A : xj_H), k23 v1 v2 v3 v4 A = some (xf_r z) → xj_W l z 23 [(0, xj_rv (some (.inr 200))), (1, xj_rv v1), (2, xj_rv v2), (3, xj_rv v3), (4, .int v4)] [] A) (v1 : xj_Rf) (v2 : xj_Rf) (v3 : xj_Rf) (v4 : Int32) (A : xj_H) (h : fL_law_381 (xf_g z).2.2.2.1 (xf_g z).2.2.2.2 k23 v1 v2 v3 v4 A = some (xf_r z)) : xj_W l z 381 [(0, xj_rv (some (.inr 200))), (1, xj_rv v1), (2, xj_rv v2), (3, xj_rv v3), (4, .int v4)] [] A := by
  unfold fL_law_381 at h
  refine xg_goto (pc := 381) (tgt := 870) B dL_law_381 (by decide) ?_
  exact wL_law_870 hl B _ hk23 _ _ _ _ _ h
set_option maxHeartbeats 4000000 in
theorem wL_law_375 {l : Launch} (hl : l.stackTraces = false) {z : xj_F} (B : xj_B l yL_law code 7 (some .boolean) [] 12 z) (k23 : xj_Rf → xj_Rf → xj_Rf → Int32 → xj_H → Option xj_R) (hk23 : ∀ (v1 : xj_Rf) (v2 : xj_Rf) (v3 : xj_Rf) (v4 : Int32) (A : xj_H), k23 v1 v2 v3 v4 A = some (xf_r z) → xj_W l z 23 [(0, xj_rv (some (.inr 200))), (1, xj_rv v1), (2, xj_rv v2), (3, xj_rv v3), (4, .int v4)] [] A) (v1 : xj_Rf) (v2 : xj_Rf) (v3 : xj_Rf) (v4 : Int32) (s0 : Int64) (s1 : Int64) (A : xj_H) (h : fL_law_375 (xf_g z).2.2.2.1 (xf_g z).2.2.2.2 k23 v1 v2 v3 v4 s0 s1 A = some (xf_r z)) : xj_W l z 375 [(0, xj_rv (some (.inr 200))), (1, xj_rv v1), (2, xj_rv v2), (3, xj_rv v3), (4, .int v4)] [.long s0, .long s1] A := by
  unfold fL_law_375 at h
  refine xg_lcmp (pc := 375) B dL_law_375 ?_
  refine xg_if_eq (pc := 376) (tgt := 381) B dL_law_376 (by decide) h (fun c376 h => ?_) (fun c376 h => ?_)
  · exact wL_law_381 hl B _ hk23 _ _ _ _ _ h
  · refine xg_iconst (pc := 379) (v := 0) B dL_law_379 (by decide) ?_
    exact xg_zret B dL_law_380 h
set_option maxHeartbeats 4000000 in
theorem wL_law_306 {l : Launch} (hl : l.stackTraces = false) {z : xj_F} (B : xj_B l yL_law code 7 (some .boolean) [] 12 z) (k23 : xj_Rf → xj_Rf → xj_Rf → Int32 → xj_H → Option xj_R) (hk23 : ∀ (v1 : xj_Rf) (v2 : xj_Rf) (v3 : xj_Rf) (v4 : Int32) (A : xj_H), k23 v1 v2 v3 v4 A = some (xf_r z) → xj_W l z 23 [(0, xj_rv (some (.inr 200))), (1, xj_rv v1), (2, xj_rv v2), (3, xj_rv v3), (4, .int v4)] [] A) (v1 : xj_Rf) (v2 : xj_Rf) (v3 : xj_Rf) (v4 : Int32) (A : xj_H) (h : fL_law_306 (xf_g z).2.2.2.1 (xf_g z).2.2.2.2 k23 v1 v2 v3 v4 A = some (xf_r z)) : xj_W l z 306 [(0, xj_rv (some (.inr 200))), (1, xj_rv v1), (2, xj_rv v2), (3, xj_rv v3), (4, .int v4)] [] A := by
  unfold fL_law_306 at h
  refine xg_goto (pc := 306) (tgt := 870) B dL_law_306 (by decide) ?_
  exact wL_law_870 hl B _ hk23 _ _ _ _ _ h
set_option maxHeartbeats 4000000 in
theorem wL_law_23 {l : Launch} (hl : l.stackTraces = false) {z : xj_F} (B : xj_B l yL_law code 7 (some .boolean) [] 12 z) : ∀ (n : Nat) (v1 : xj_Rf) (v2 : xj_Rf) (v3 : xj_Rf) (v4 : Int32) (A : xj_H), fL_law_23 (xf_g z).2.2.2.1 (xf_g z).2.2.2.2 n v1 v2 v3 v4 A = some (xf_r z) → xj_W l z 23 [(0, xj_rv (some (.inr 200))), (1, xj_rv v1), (2, xj_rv v2), (3, xj_rv v3), (4, .int v4)] [] A
  | 0, _, _, _, _, _, h => by simp [fL_law_23] at h
  | n + 1, v1, v2, v3, v4, A, h => by
    rw [fL_law_23] at h
    refine xg_iload (pc := 23) (i := 4) B dL_law_23 rfl ?_
    refine xg_aload_n (pc := 25) (i := 0) (r := (some (.inr 200))) B dL_law_25 rfl rfl ?_
    refine xg_slen (pc := 26) B dL_law_26 ?_
    refine xg_bipush (pc := 27) (v := 7) B dL_law_27 (by decide) ?_
    refine xg_isub (pc := 29) B dL_law_29 ?_
    refine xg_icmp_gt (pc := 30) (tgt := 876) B dL_law_30 (by decide) h (fun c30 h => ?_) (fun c30 h => ?_)
    · refine xg_iconst (pc := 876) (v := 1) B dL_law_876 (by decide) ?_
      exact xg_zret B dL_law_877 h
    · refine xg_aload_n (pc := 33) (i := 0) (r := (some (.inr 200))) B dL_law_33 rfl rfl ?_
      refine xg_iload (pc := 34) (i := 4) B dL_law_34 rfl ?_
      refine xg_sload (pc := 36) B dL_law_36 h (fun x2 ex2 h => ?_)
      refine xg_bipush (pc := 37) (v := 15) B dL_law_37 (by decide) ?_
      refine xg_iand (pc := 39) B dL_law_39 ?_
      by_cases t40_0 : (x2 &&& (15 : Int32)) = 0
      · rw [if_pos t40_0] at h
        refine xg_tsIn (pc := 40) (tgt := 104) B dL_law_40 (by rw [t40_0]; decide) (by rw [t40_0]; decide) (by rw [t40_0]; rfl) (by decide) ?_
        refine xg_aload_n (pc := 104) (i := 1) (r := v1) B dL_law_104 rfl rfl ?_
        refine xg_aload_n (pc := 105) (i := 0) (r := (some (.inr 200))) B dL_law_105 rfl rfl ?_
        refine xg_iload (pc := 106) (i := 4) B dL_law_106 rfl ?_
        refine xg_iconst (pc := 108) (v := 1) B dL_law_108 (by decide) ?_
        refine xg_iadd (pc := 109) B dL_law_109 ?_
        refine xg_sload (pc := 110) B dL_law_110 h (fun x3 ex3 h => ?_)
        refine xg_i2c (pc := 111) B dL_law_111 ?_
        obtain ⟨hq112, h⟩ := xj_rq_i h
        refine xg_ci (pc := 112) (av := [xj_rv v1, .int ((Int32.toUInt32 x3 % 65536).toInt32)]) (st := []) (cy := prog_1_method_2_code) (nLy := 2) (rety := (some .boolean)) (hsy := []) B dL_law_112 (xj_go_v B dL_law_112 vwL_52 rfl hq112) (xj_vw_c vwL_52) (xj_vw_i vwL_52) (by decide) (by decide) (by decide) rfl (fun r9 h9 => cB_type hl _ _ _ r9 h9) h (fun x4 A5 eA5 h => ?_)
        refine xg_aload_n (pc := 115) (i := 2) (r := v2) B dL_law_115 rfl rfl ?_
        refine xg_aload_n (pc := 116) (i := 0) (r := (some (.inr 200))) B dL_law_116 rfl rfl ?_
        refine xg_iload (pc := 117) (i := 4) B dL_law_117 rfl ?_
        refine xg_iconst (pc := 119) (v := 1) B dL_law_119 (by decide) ?_
        refine xg_iadd (pc := 120) B dL_law_120 ?_
        refine xg_sload (pc := 121) B dL_law_121 h (fun x6 ex6 h => ?_)
        refine xg_i2c (pc := 122) B dL_law_122 ?_
        obtain ⟨hq123, h⟩ := xj_rq_i h
        refine xg_ci (pc := 123) (av := [xj_rv v2, .int ((Int32.toUInt32 x6 % 65536).toInt32)]) (st := [.int x4]) (cy := prog_11_method_18_code) (nLy := 2) (rety := (some .boolean)) (hsy := []) B dL_law_123 (xj_go_v B dL_law_123 vwL_56 rfl hq123) (xj_vw_c vwL_56) (xj_vw_i vwL_56) (by decide) (by decide) (by simp [xj_ic, xj_lc, xj_rv_cat]) rfl (fun r9 h9 => cM_type hl _ _ _ r9 h9) h (fun x7 A8 eA8 h => ?_)
        refine xg_icmp_eq (pc := 126) (tgt := 870) B dL_law_126 (by decide) h (fun c126 h => ?_) (fun c126 h => ?_)
        · exact wL_law_870 hl B _ (wL_law_23 hl B n) _ _ _ _ _ h
        · refine xg_iconst (pc := 129) (v := 0) B dL_law_129 (by decide) ?_
          exact xg_zret B dL_law_130 h
      rw [if_neg t40_0] at h
      by_cases t40_1 : (x2 &&& (15 : Int32)) = 1
      · rw [if_pos t40_1] at h
        refine xg_tsIn (pc := 40) (tgt := 131) B dL_law_40 (by rw [t40_1]; decide) (by rw [t40_1]; decide) (by rw [t40_1]; rfl) (by decide) ?_
        refine xg_aload_n (pc := 131) (i := 1) (r := v1) B dL_law_131 rfl rfl ?_
        refine xg_aload_n (pc := 132) (i := 0) (r := (some (.inr 200))) B dL_law_132 rfl rfl ?_
        refine xg_iload (pc := 133) (i := 4) B dL_law_133 rfl ?_
        refine xg_iconst (pc := 135) (v := 1) B dL_law_135 (by decide) ?_
        refine xg_iadd (pc := 136) B dL_law_136 ?_
        refine xg_sload (pc := 137) B dL_law_137 h (fun x9 ex9 h => ?_)
        refine xg_aload_n (pc := 138) (i := 0) (r := (some (.inr 200))) B dL_law_138 rfl rfl ?_
        refine xg_iload (pc := 139) (i := 4) B dL_law_139 rfl ?_
        refine xg_iconst (pc := 141) (v := 2) B dL_law_141 (by decide) ?_
        refine xg_iadd (pc := 142) B dL_law_142 ?_
        refine xg_sload (pc := 143) B dL_law_143 h (fun x10 ex10 h => ?_)
        refine xg_aload_n (pc := 144) (i := 0) (r := (some (.inr 200))) B dL_law_144 rfl rfl ?_
        refine xg_iload (pc := 145) (i := 4) B dL_law_145 rfl ?_
        refine xg_iconst (pc := 147) (v := 3) B dL_law_147 (by decide) ?_
        refine xg_iadd (pc := 148) B dL_law_148 ?_
        refine xg_sload (pc := 149) B dL_law_149 h (fun x11 ex11 h => ?_)
        refine xg_aload_n (pc := 150) (i := 0) (r := (some (.inr 200))) B dL_law_150 rfl rfl ?_
        refine xg_iload (pc := 151) (i := 4) B dL_law_151 rfl ?_
        refine xg_iconst (pc := 153) (v := 4) B dL_law_153 (by decide) ?_
        refine xg_iadd (pc := 154) B dL_law_154 ?_
        refine xg_sload (pc := 155) B dL_law_155 h (fun x12 ex12 h => ?_)
        refine xg_aload_n (pc := 156) (i := 0) (r := (some (.inr 200))) B dL_law_156 rfl rfl ?_
        refine xg_iload (pc := 157) (i := 4) B dL_law_157 rfl ?_
        refine xg_iconst (pc := 159) (v := 5) B dL_law_159 (by decide) ?_
        refine xg_iadd (pc := 160) B dL_law_160 ?_
        refine xg_sload (pc := 161) B dL_law_161 h (fun x13 ex13 h => ?_)
        refine xg_aload_n (pc := 162) (i := 0) (r := (some (.inr 200))) B dL_law_162 rfl rfl ?_
        refine xg_iload (pc := 163) (i := 4) B dL_law_163 rfl ?_
        refine xg_bipush (pc := 165) (v := 6) B dL_law_165 (by decide) ?_
        refine xg_iadd (pc := 167) B dL_law_167 ?_
        refine xg_sload (pc := 168) B dL_law_168 h (fun x14 ex14 h => ?_)
        refine xg_ci (pc := 169) (av := [xj_rv v1, .int x9, .int x10, .int x11, .int x12, .int x13, .int x14]) (st := []) (cy := method_3_code) (nLy := 8) (rety := (some .int)) (hsy := [(0, 13, 16, 13)]) B dL_law_169 (xj_go_s B dL_law_169 swL_57 rfl) swL_57.2.2.1 swL_57.2.2.2.1 (by decide) (by decide) (by decide) rfl (fun r9 h9 => cL_zone hl _ _ _ _ _ _ _ _ r9 h9) h (fun x15 A16 eA16 h => ?_)
        refine xg_istore (pc := 172) (i := 5) (ls' := [(5, .int x15), (0, xj_rv (some (.inr 200))), (1, xj_rv v1), (2, xj_rv v2), (3, xj_rv v3), (4, .int v4)]) B dL_law_172 (by decide) ⟨xj_nq (a := 0) (i := 5) (by decide), xj_nq (a := 1) (i := 5) (by decide), xj_nq (a := 2) (i := 5) (by decide), xj_nq (a := 3) (i := 5) (by decide), fun _ => rfl, trivial⟩ rfl ?_
        refine xg_aload_n (pc := 174) (i := 2) (r := v2) B dL_law_174 rfl rfl ?_
        refine xg_aload_n (pc := 175) (i := 0) (r := (some (.inr 200))) B dL_law_175 rfl rfl ?_
        refine xg_iload (pc := 176) (i := 4) B dL_law_176 rfl ?_
        refine xg_iconst (pc := 178) (v := 1) B dL_law_178 (by decide) ?_
        refine xg_iadd (pc := 179) B dL_law_179 ?_
        refine xg_sload (pc := 180) B dL_law_180 h (fun x17 ex17 h => ?_)
        refine xg_aload_n (pc := 181) (i := 0) (r := (some (.inr 200))) B dL_law_181 rfl rfl ?_
        refine xg_iload (pc := 182) (i := 4) B dL_law_182 rfl ?_
        refine xg_iconst (pc := 184) (v := 2) B dL_law_184 (by decide) ?_
        refine xg_iadd (pc := 185) B dL_law_185 ?_
        refine xg_sload (pc := 186) B dL_law_186 h (fun x18 ex18 h => ?_)
        refine xg_aload_n (pc := 187) (i := 0) (r := (some (.inr 200))) B dL_law_187 rfl rfl ?_
        refine xg_iload (pc := 188) (i := 4) B dL_law_188 rfl ?_
        refine xg_iconst (pc := 190) (v := 3) B dL_law_190 (by decide) ?_
        refine xg_iadd (pc := 191) B dL_law_191 ?_
        refine xg_sload (pc := 192) B dL_law_192 h (fun x19 ex19 h => ?_)
        refine xg_aload_n (pc := 193) (i := 0) (r := (some (.inr 200))) B dL_law_193 rfl rfl ?_
        refine xg_iload (pc := 194) (i := 4) B dL_law_194 rfl ?_
        refine xg_iconst (pc := 196) (v := 4) B dL_law_196 (by decide) ?_
        refine xg_iadd (pc := 197) B dL_law_197 ?_
        refine xg_sload (pc := 198) B dL_law_198 h (fun x20 ex20 h => ?_)
        refine xg_aload_n (pc := 199) (i := 0) (r := (some (.inr 200))) B dL_law_199 rfl rfl ?_
        refine xg_iload (pc := 200) (i := 4) B dL_law_200 rfl ?_
        refine xg_iconst (pc := 202) (v := 5) B dL_law_202 (by decide) ?_
        refine xg_iadd (pc := 203) B dL_law_203 ?_
        refine xg_sload (pc := 204) B dL_law_204 h (fun x21 ex21 h => ?_)
        refine xg_aload_n (pc := 205) (i := 0) (r := (some (.inr 200))) B dL_law_205 rfl rfl ?_
        refine xg_iload (pc := 206) (i := 4) B dL_law_206 rfl ?_
        refine xg_bipush (pc := 208) (v := 6) B dL_law_208 (by decide) ?_
        refine xg_iadd (pc := 210) B dL_law_210 ?_
        refine xg_sload (pc := 211) B dL_law_211 h (fun x22 ex22 h => ?_)
        obtain ⟨hq212, h⟩ := xj_rq_v h
        refine xg_cv (pc := 212) (av := [xj_rv v2, .int x17, .int x18, .int x19, .int x20, .int x21, .int x22]) (st := []) (cy := prog_11_method_14_code) (nLy := 8) (rety := none) (hsy := []) B dL_law_212 (xj_go_v B dL_law_212 vwL_62 rfl hq212) (xj_vw_c vwL_62) (xj_vw_i vwL_62) (by decide) (by decide) (by decide) rfl (fun r9 h9 => cM_zone hl _ _ _ _ _ _ _ _ r9 h9) h (fun A23 eA23 h => ?_)
        refine xg_aload_n (pc := 215) (i := 2) (r := v2) B dL_law_215 rfl rfl ?_
        obtain ⟨hq216, h⟩ := xj_rq_i h
        refine xg_ci (pc := 216) (av := [xj_rv v2]) (st := []) (cy := prog_11_method_2_code) (nLy := 1) (rety := (some .int)) (hsy := []) B dL_law_216 (xj_go_v B dL_law_216 vwL_63 rfl hq216) (xj_vw_c vwL_63) (xj_vw_i vwL_63) (by decide) (by decide) (by decide) rfl (fun r9 h9 => cM_thrown hl _ _ r9 h9) h (fun x24 A25 eA25 h => ?_)
        refine xg_iload (pc := 219) (i := 5) B dL_law_219 rfl ?_
        refine xg_icmp_eq (pc := 221) (tgt := 226) B dL_law_221 (by decide) h (fun c221 h => ?_) (fun c221 h => ?_)
        · refine xg_goto (pc := 226) (tgt := 870) B dL_law_226 (by decide) ?_
          refine xg_sub (ls' := [(0, xj_rv (some (.inr 200))), (1, xj_rv v1), (2, xj_rv v2), (3, xj_rv v3), (4, .int v4)]) [1, 2, 3, 4, 5] rfl ?_
          exact wL_law_870 hl B _ (wL_law_23 hl B n) _ _ _ _ _ h
        · refine xg_iconst (pc := 224) (v := 0) B dL_law_224 (by decide) ?_
          exact xg_zret B dL_law_225 h
      rw [if_neg t40_1] at h
      by_cases t40_2 : (x2 &&& (15 : Int32)) = 2
      · rw [if_pos t40_2] at h
        refine xg_tsIn (pc := 40) (tgt := 229) B dL_law_40 (by rw [t40_2]; decide) (by rw [t40_2]; decide) (by rw [t40_2]; rfl) (by decide) ?_
        refine xg_aload_n (pc := 229) (i := 1) (r := v1) B dL_law_229 rfl rfl ?_
        refine xg_aload_n (pc := 230) (i := 0) (r := (some (.inr 200))) B dL_law_230 rfl rfl ?_
        refine xg_iload (pc := 231) (i := 4) B dL_law_231 rfl ?_
        refine xg_iconst (pc := 233) (v := 1) B dL_law_233 (by decide) ?_
        refine xg_iadd (pc := 234) B dL_law_234 ?_
        refine xg_sload (pc := 235) B dL_law_235 h (fun x26 ex26 h => ?_)
        refine xg_aload_n (pc := 236) (i := 0) (r := (some (.inr 200))) B dL_law_236 rfl rfl ?_
        refine xg_iload (pc := 237) (i := 4) B dL_law_237 rfl ?_
        refine xg_iconst (pc := 239) (v := 2) B dL_law_239 (by decide) ?_
        refine xg_iadd (pc := 240) B dL_law_240 ?_
        refine xg_sload (pc := 241) B dL_law_241 h (fun x27 ex27 h => ?_)
        refine xg_aload_n (pc := 242) (i := 0) (r := (some (.inr 200))) B dL_law_242 rfl rfl ?_
        refine xg_iload (pc := 243) (i := 4) B dL_law_243 rfl ?_
        refine xg_iconst (pc := 245) (v := 3) B dL_law_245 (by decide) ?_
        refine xg_iadd (pc := 246) B dL_law_246 ?_
        refine xg_sload (pc := 247) B dL_law_247 h (fun x28 ex28 h => ?_)
        refine xg_aload_n (pc := 248) (i := 3) (r := v3) B dL_law_248 rfl rfl ?_
        refine xg_ci (pc := 249) (av := [xj_rv v1, .int x26, .int x27, .int x28, xj_rv v3]) (st := []) (cy := method_4_code) (nLy := 6) (rety := (some .int)) (hsy := [(0, 12, 15, 19), (0, 12, 19, 13)]) B dL_law_249 (xj_go_s B dL_law_249 swL_67 rfl) swL_67.2.2.1 swL_67.2.2.2.1 (by decide) (by decide) (by decide) rfl (fun r9 h9 => cL_event hl _ _ _ _ _ _ r9 h9) h (fun x29 A30 eA30 h => ?_)
        refine xg_istore (pc := 252) (i := 5) (ls' := [(5, .int x29), (0, xj_rv (some (.inr 200))), (1, xj_rv v1), (2, xj_rv v2), (3, xj_rv v3), (4, .int v4)]) B dL_law_252 (by decide) ⟨xj_nq (a := 0) (i := 5) (by decide), xj_nq (a := 1) (i := 5) (by decide), xj_nq (a := 2) (i := 5) (by decide), xj_nq (a := 3) (i := 5) (by decide), fun _ => rfl, trivial⟩ rfl ?_
        refine xg_aload_n (pc := 254) (i := 2) (r := v2) B dL_law_254 rfl rfl ?_
        refine xg_aload_n (pc := 255) (i := 0) (r := (some (.inr 200))) B dL_law_255 rfl rfl ?_
        refine xg_iload (pc := 256) (i := 4) B dL_law_256 rfl ?_
        refine xg_iconst (pc := 258) (v := 1) B dL_law_258 (by decide) ?_
        refine xg_iadd (pc := 259) B dL_law_259 ?_
        refine xg_sload (pc := 260) B dL_law_260 h (fun x31 ex31 h => ?_)
        refine xg_aload_n (pc := 261) (i := 0) (r := (some (.inr 200))) B dL_law_261 rfl rfl ?_
        refine xg_iload (pc := 262) (i := 4) B dL_law_262 rfl ?_
        refine xg_iconst (pc := 264) (v := 2) B dL_law_264 (by decide) ?_
        refine xg_iadd (pc := 265) B dL_law_265 ?_
        refine xg_sload (pc := 266) B dL_law_266 h (fun x32 ex32 h => ?_)
        refine xg_aload_n (pc := 267) (i := 0) (r := (some (.inr 200))) B dL_law_267 rfl rfl ?_
        refine xg_iload (pc := 268) (i := 4) B dL_law_268 rfl ?_
        refine xg_iconst (pc := 270) (v := 3) B dL_law_270 (by decide) ?_
        refine xg_iadd (pc := 271) B dL_law_271 ?_
        refine xg_sload (pc := 272) B dL_law_272 h (fun x33 ex33 h => ?_)
        obtain ⟨hq273, h⟩ := xj_rq_i h
        refine xg_ci (pc := 273) (av := [xj_rv v2, .int x31, .int x32, .int x33]) (st := []) (cy := prog_11_method_37_code) (nLy := 5) (rety := (some .int)) (hsy := []) B dL_law_273 (xj_go_v B dL_law_273 vwL_70 rfl hq273) (xj_vw_c vwL_70) (xj_vw_i vwL_70) (by decide) (by decide) (by decide) rfl (fun r9 h9 => cM_event hl _ _ _ _ _ r9 h9) h (fun x34 A35 eA35 h => ?_)
        refine xg_istore (pc := 276) (i := 6) (ls' := [(6, .int x34), (5, .int x29), (0, xj_rv (some (.inr 200))), (1, xj_rv v1), (2, xj_rv v2), (3, xj_rv v3), (4, .int v4)]) B dL_law_276 (by decide) ⟨fun _ => rfl, xj_nq (a := 0) (i := 6) (by decide), xj_nq (a := 1) (i := 6) (by decide), xj_nq (a := 2) (i := 6) (by decide), xj_nq (a := 3) (i := 6) (by decide), xj_nq (a := 4) (i := 6) (by decide), trivial⟩ rfl ?_
        refine xg_aload_n (pc := 278) (i := 2) (r := v2) B dL_law_278 rfl rfl ?_
        obtain ⟨hq279, h⟩ := xj_rq_i h
        refine xg_ci (pc := 279) (av := [xj_rv v2]) (st := []) (cy := prog_11_method_2_code) (nLy := 1) (rety := (some .int)) (hsy := []) B dL_law_279 (xj_go_v B dL_law_279 vwL_63 rfl hq279) (xj_vw_c vwL_63) (xj_vw_i vwL_63) (by decide) (by decide) (by decide) rfl (fun r9 h9 => cM_thrown hl _ _ r9 h9) h (fun x36 A37 eA37 h => ?_)
        refine xg_iload (pc := 282) (i := 5) B dL_law_282 rfl ?_
        refine xg_icmp_eq (pc := 284) (tgt := 289) B dL_law_284 (by decide) h (fun c284 h => ?_) (fun c284 h => ?_)
        · refine xg_iload (pc := 289) (i := 5) B dL_law_289 rfl ?_
          refine xg_if_ne (pc := 291) (tgt := 306) B dL_law_291 (by decide) h (fun c291 h => ?_) (fun c291 h => ?_)
          · refine xg_sub (ls' := [(0, xj_rv (some (.inr 200))), (1, xj_rv v1), (2, xj_rv v2), (3, xj_rv v3), (4, .int v4)]) [2, 3, 4, 5, 6] rfl ?_
            exact wL_law_306 hl B _ (wL_law_23 hl B n) _ _ _ _ _ h
          · refine xg_aload_n (pc := 294) (i := 3) (r := v3) B dL_law_294 rfl rfl ?_
            refine xg_iconst (pc := 295) (v := 0) B dL_law_295 (by decide) ?_
            refine xg_laload (pc := 296) B dL_law_296 h (fun x38 ex38 h => ?_)
            refine xg_iload (pc := 297) (i := 6) B dL_law_297 rfl ?_
            refine xg_i2l (pc := 299) B dL_law_299 ?_
            refine xg_lcmp (pc := 300) B dL_law_300 ?_
            refine xg_if_eq (pc := 301) (tgt := 306) B dL_law_301 (by decide) h (fun c301 h => ?_) (fun c301 h => ?_)
            · refine xg_sub (ls' := [(0, xj_rv (some (.inr 200))), (1, xj_rv v1), (2, xj_rv v2), (3, xj_rv v3), (4, .int v4)]) [2, 3, 4, 5, 6] rfl ?_
              exact wL_law_306 hl B _ (wL_law_23 hl B n) _ _ _ _ _ h
            · refine xg_iconst (pc := 304) (v := 0) B dL_law_304 (by decide) ?_
              exact xg_zret B dL_law_305 h
        · refine xg_iconst (pc := 287) (v := 0) B dL_law_287 (by decide) ?_
          exact xg_zret B dL_law_288 h
      rw [if_neg t40_2] at h
      by_cases t40_3 : (x2 &&& (15 : Int32)) = 3
      · rw [if_pos t40_3] at h
        refine xg_tsIn (pc := 40) (tgt := 309) B dL_law_40 (by rw [t40_3]; decide) (by rw [t40_3]; decide) (by rw [t40_3]; rfl) (by decide) ?_
        refine xg_aload_n (pc := 309) (i := 1) (r := v1) B dL_law_309 rfl rfl ?_
        refine xg_aload_n (pc := 310) (i := 0) (r := (some (.inr 200))) B dL_law_310 rfl rfl ?_
        refine xg_iload (pc := 311) (i := 4) B dL_law_311 rfl ?_
        refine xg_iconst (pc := 313) (v := 1) B dL_law_313 (by decide) ?_
        refine xg_iadd (pc := 314) B dL_law_314 ?_
        refine xg_sload (pc := 315) B dL_law_315 h (fun x39 ex39 h => ?_)
        refine xg_aload_n (pc := 316) (i := 0) (r := (some (.inr 200))) B dL_law_316 rfl rfl ?_
        refine xg_iload (pc := 317) (i := 4) B dL_law_317 rfl ?_
        refine xg_iconst (pc := 319) (v := 2) B dL_law_319 (by decide) ?_
        refine xg_iadd (pc := 320) B dL_law_320 ?_
        refine xg_sload (pc := 321) B dL_law_321 h (fun x40 ex40 h => ?_)
        refine xg_aload_n (pc := 322) (i := 3) (r := v3) B dL_law_322 rfl rfl ?_
        refine xg_ci (pc := 323) (av := [xj_rv v1, .int x39, .int x40, xj_rv v3]) (st := []) (cy := method_5_code) (nLy := 5) (rety := (some .int)) (hsy := [(0, 17, 20, 25)]) B dL_law_323 (xj_go_s B dL_law_323 swL_71 rfl) swL_71.2.2.1 swL_71.2.2.2.1 (by decide) (by decide) (by decide) rfl (fun r9 h9 => cL_exclude hl _ _ _ _ _ r9 h9) h (fun x41 A42 eA42 h => ?_)
        refine xg_istore (pc := 326) (i := 5) (ls' := [(5, .int x41), (0, xj_rv (some (.inr 200))), (1, xj_rv v1), (2, xj_rv v2), (3, xj_rv v3), (4, .int v4)]) B dL_law_326 (by decide) ⟨xj_nq (a := 0) (i := 5) (by decide), xj_nq (a := 1) (i := 5) (by decide), xj_nq (a := 2) (i := 5) (by decide), xj_nq (a := 3) (i := 5) (by decide), fun _ => rfl, trivial⟩ rfl ?_
        refine xg_aload_n (pc := 328) (i := 2) (r := v2) B dL_law_328 rfl rfl ?_
        refine xg_aload_n (pc := 329) (i := 0) (r := (some (.inr 200))) B dL_law_329 rfl rfl ?_
        refine xg_iload (pc := 330) (i := 4) B dL_law_330 rfl ?_
        refine xg_iconst (pc := 332) (v := 1) B dL_law_332 (by decide) ?_
        refine xg_iadd (pc := 333) B dL_law_333 ?_
        refine xg_sload (pc := 334) B dL_law_334 h (fun x43 ex43 h => ?_)
        refine xg_aload_n (pc := 335) (i := 0) (r := (some (.inr 200))) B dL_law_335 rfl rfl ?_
        refine xg_iload (pc := 336) (i := 4) B dL_law_336 rfl ?_
        refine xg_iconst (pc := 338) (v := 2) B dL_law_338 (by decide) ?_
        refine xg_iadd (pc := 339) B dL_law_339 ?_
        refine xg_sload (pc := 340) B dL_law_340 h (fun x44 ex44 h => ?_)
        obtain ⟨hq341, h⟩ := xj_rq_i h
        refine xg_ci (pc := 341) (av := [xj_rv v2, .int x43, .int x44]) (st := []) (cy := prog_11_method_39_code) (nLy := 5) (rety := (some .boolean)) (hsy := []) B dL_law_341 (xj_go_v B dL_law_341 vwL_74 rfl hq341) (xj_vw_c vwL_74) (xj_vw_i vwL_74) (by decide) (by decide) (by decide) rfl (fun r9 h9 => cM_exclude hl _ _ _ _ r9 h9) h (fun x45 A46 eA46 h => ?_)
        refine xg_istore (pc := 344) (i := 6) (ls' := [(6, .int x45), (5, .int x41), (0, xj_rv (some (.inr 200))), (1, xj_rv v1), (2, xj_rv v2), (3, xj_rv v3), (4, .int v4)]) B dL_law_344 (by decide) ⟨fun _ => rfl, xj_nq (a := 0) (i := 6) (by decide), xj_nq (a := 1) (i := 6) (by decide), xj_nq (a := 2) (i := 6) (by decide), xj_nq (a := 3) (i := 6) (by decide), xj_nq (a := 4) (i := 6) (by decide), trivial⟩ rfl ?_
        refine xg_aload_n (pc := 346) (i := 2) (r := v2) B dL_law_346 rfl rfl ?_
        obtain ⟨hq347, h⟩ := xj_rq_i h
        refine xg_ci (pc := 347) (av := [xj_rv v2]) (st := []) (cy := prog_11_method_2_code) (nLy := 1) (rety := (some .int)) (hsy := []) B dL_law_347 (xj_go_v B dL_law_347 vwL_63 rfl hq347) (xj_vw_c vwL_63) (xj_vw_i vwL_63) (by decide) (by decide) (by decide) rfl (fun r9 h9 => cM_thrown hl _ _ r9 h9) h (fun x47 A48 eA48 h => ?_)
        refine xg_iload (pc := 350) (i := 5) B dL_law_350 rfl ?_
        refine xg_icmp_eq (pc := 352) (tgt := 357) B dL_law_352 (by decide) h (fun c352 h => ?_) (fun c352 h => ?_)
        · refine xg_iload (pc := 357) (i := 5) B dL_law_357 rfl ?_
          refine xg_if_ne (pc := 359) (tgt := 381) B dL_law_359 (by decide) h (fun c359 h => ?_) (fun c359 h => ?_)
          · refine xg_sub (ls' := [(0, xj_rv (some (.inr 200))), (1, xj_rv v1), (2, xj_rv v2), (3, xj_rv v3), (4, .int v4)]) [2, 3, 4, 5, 6] rfl ?_
            exact wL_law_381 hl B _ (wL_law_23 hl B n) _ _ _ _ _ h
          · refine xg_aload_n (pc := 362) (i := 3) (r := v3) B dL_law_362 rfl rfl ?_
            refine xg_iconst (pc := 363) (v := 0) B dL_law_363 (by decide) ?_
            refine xg_laload (pc := 364) B dL_law_364 h (fun x49 ex49 h => ?_)
            refine xg_iload (pc := 365) (i := 6) B dL_law_365 rfl ?_
            refine xg_if_eq (pc := 367) (tgt := 374) B dL_law_367 (by decide) h (fun c367 h => ?_) (fun c367 h => ?_)
            · refine xg_lconst (pc := 374) (v := 0) B dL_law_374 (by decide) ?_
              refine xg_sub (ls' := [(0, xj_rv (some (.inr 200))), (1, xj_rv v1), (2, xj_rv v2), (3, xj_rv v3), (4, .int v4)]) [2, 3, 4, 5, 6] rfl ?_
              exact wL_law_375 hl B _ (wL_law_23 hl B n) _ _ _ _ _ _ _ h
            · refine xg_lconst (pc := 370) (v := 1) B dL_law_370 (by decide) ?_
              refine xg_goto (pc := 371) (tgt := 375) B dL_law_371 (by decide) ?_
              refine xg_sub (ls' := [(0, xj_rv (some (.inr 200))), (1, xj_rv v1), (2, xj_rv v2), (3, xj_rv v3), (4, .int v4)]) [2, 3, 4, 5, 6] rfl ?_
              exact wL_law_375 hl B _ (wL_law_23 hl B n) _ _ _ _ _ _ _ h
        · refine xg_iconst (pc := 355) (v := 0) B dL_law_355 (by decide) ?_
          exact xg_zret B dL_law_356 h
      rw [if_neg t40_3] at h
      by_cases t40_4 : (x2 &&& (15 : Int32)) = 4
      · rw [if_pos t40_4] at h
        refine xg_tsIn (pc := 40) (tgt := 384) B dL_law_40 (by rw [t40_4]; decide) (by rw [t40_4]; decide) (by rw [t40_4]; rfl) (by decide) ?_
        refine xg_aload_n (pc := 384) (i := 1) (r := v1) B dL_law_384 rfl rfl ?_
        refine xg_aload_n (pc := 385) (i := 0) (r := (some (.inr 200))) B dL_law_385 rfl rfl ?_
        refine xg_iload (pc := 386) (i := 4) B dL_law_386 rfl ?_
        refine xg_iconst (pc := 388) (v := 1) B dL_law_388 (by decide) ?_
        refine xg_iadd (pc := 389) B dL_law_389 ?_
        refine xg_sload (pc := 390) B dL_law_390 h (fun x50 ex50 h => ?_)
        refine xg_aload_n (pc := 391) (i := 3) (r := v3) B dL_law_391 rfl rfl ?_
        refine xg_ci (pc := 392) (av := [xj_rv v1, .int x50, xj_rv v3]) (st := []) (cy := method_6_code) (nLy := 4) (rety := (some .int)) (hsy := [(0, 9, 12, 25)]) B dL_law_392 (xj_go_s B dL_law_392 swL_75 rfl) swL_75.2.2.1 swL_75.2.2.2.1 (by decide) (by decide) (by decide) rfl (fun r9 h9 => cL_times hl _ _ _ _ r9 h9) h (fun x51 A52 eA52 h => ?_)
        refine xg_istore (pc := 395) (i := 5) (ls' := [(5, .int x51), (0, xj_rv (some (.inr 200))), (1, xj_rv v1), (2, xj_rv v2), (3, xj_rv v3), (4, .int v4)]) B dL_law_395 (by decide) ⟨xj_nq (a := 0) (i := 5) (by decide), xj_nq (a := 1) (i := 5) (by decide), xj_nq (a := 2) (i := 5) (by decide), xj_nq (a := 3) (i := 5) (by decide), fun _ => rfl, trivial⟩ rfl ?_
        refine xg_aload_n (pc := 397) (i := 2) (r := v2) B dL_law_397 rfl rfl ?_
        refine xg_aload_n (pc := 398) (i := 0) (r := (some (.inr 200))) B dL_law_398 rfl rfl ?_
        refine xg_iload (pc := 399) (i := 4) B dL_law_399 rfl ?_
        refine xg_iconst (pc := 401) (v := 1) B dL_law_401 (by decide) ?_
        refine xg_iadd (pc := 402) B dL_law_402 ?_
        refine xg_sload (pc := 403) B dL_law_403 h (fun x53 ex53 h => ?_)
        obtain ⟨hq404, h⟩ := xj_rq_i h
        refine xg_ci (pc := 404) (av := [xj_rv v2, .int x53]) (st := []) (cy := prog_11_method_40_code) (nLy := 2) (rety := (some .int)) (hsy := []) B dL_law_404 (xj_go_v B dL_law_404 vwL_78 rfl hq404) (xj_vw_c vwL_78) (xj_vw_i vwL_78) (by decide) (by decide) (by decide) rfl (fun r9 h9 => cM_times hl _ _ _ r9 h9) h (fun x54 A55 eA55 h => ?_)
        refine xg_istore (pc := 407) (i := 6) (ls' := [(6, .int x54), (5, .int x51), (0, xj_rv (some (.inr 200))), (1, xj_rv v1), (2, xj_rv v2), (3, xj_rv v3), (4, .int v4)]) B dL_law_407 (by decide) ⟨fun _ => rfl, xj_nq (a := 0) (i := 6) (by decide), xj_nq (a := 1) (i := 6) (by decide), xj_nq (a := 2) (i := 6) (by decide), xj_nq (a := 3) (i := 6) (by decide), xj_nq (a := 4) (i := 6) (by decide), trivial⟩ rfl ?_
        refine xg_aload_n (pc := 409) (i := 2) (r := v2) B dL_law_409 rfl rfl ?_
        obtain ⟨hq410, h⟩ := xj_rq_i h
        refine xg_ci (pc := 410) (av := [xj_rv v2]) (st := []) (cy := prog_11_method_2_code) (nLy := 1) (rety := (some .int)) (hsy := []) B dL_law_410 (xj_go_v B dL_law_410 vwL_63 rfl hq410) (xj_vw_c vwL_63) (xj_vw_i vwL_63) (by decide) (by decide) (by decide) rfl (fun r9 h9 => cM_thrown hl _ _ r9 h9) h (fun x56 A57 eA57 h => ?_)
        refine xg_iload (pc := 413) (i := 5) B dL_law_413 rfl ?_
        refine xg_icmp_eq (pc := 415) (tgt := 420) B dL_law_415 (by decide) h (fun c415 h => ?_) (fun c415 h => ?_)
        · refine xg_iload (pc := 420) (i := 5) B dL_law_420 rfl ?_
          refine xg_if_ne (pc := 422) (tgt := 437) B dL_law_422 (by decide) h (fun c422 h => ?_) (fun c422 h => ?_)
          · refine xg_sub (ls' := [(0, xj_rv (some (.inr 200))), (1, xj_rv v1), (2, xj_rv v2), (3, xj_rv v3), (4, .int v4)]) [2, 3, 4, 5, 6] rfl ?_
            exact wL_law_437 hl B _ (wL_law_23 hl B n) _ _ _ _ _ h
          · refine xg_aload_n (pc := 425) (i := 3) (r := v3) B dL_law_425 rfl rfl ?_
            refine xg_iconst (pc := 426) (v := 0) B dL_law_426 (by decide) ?_
            refine xg_laload (pc := 427) B dL_law_427 h (fun x58 ex58 h => ?_)
            refine xg_iload (pc := 428) (i := 6) B dL_law_428 rfl ?_
            refine xg_i2l (pc := 430) B dL_law_430 ?_
            refine xg_lcmp (pc := 431) B dL_law_431 ?_
            refine xg_if_eq (pc := 432) (tgt := 437) B dL_law_432 (by decide) h (fun c432 h => ?_) (fun c432 h => ?_)
            · refine xg_sub (ls' := [(0, xj_rv (some (.inr 200))), (1, xj_rv v1), (2, xj_rv v2), (3, xj_rv v3), (4, .int v4)]) [2, 3, 4, 5, 6] rfl ?_
              exact wL_law_437 hl B _ (wL_law_23 hl B n) _ _ _ _ _ h
            · refine xg_iconst (pc := 435) (v := 0) B dL_law_435 (by decide) ?_
              exact xg_zret B dL_law_436 h
        · refine xg_iconst (pc := 418) (v := 0) B dL_law_418 (by decide) ?_
          exact xg_zret B dL_law_419 h
      rw [if_neg t40_4] at h
      by_cases t40_5 : (x2 &&& (15 : Int32)) = 5
      · rw [if_pos t40_5] at h
        refine xg_tsIn (pc := 40) (tgt := 440) B dL_law_40 (by rw [t40_5]; decide) (by rw [t40_5]; decide) (by rw [t40_5]; rfl) (by decide) ?_
        refine xg_aload_n (pc := 440) (i := 1) (r := v1) B dL_law_440 rfl rfl ?_
        refine xg_aload_n (pc := 441) (i := 0) (r := (some (.inr 200))) B dL_law_441 rfl rfl ?_
        refine xg_iload (pc := 442) (i := 4) B dL_law_442 rfl ?_
        refine xg_iconst (pc := 444) (v := 1) B dL_law_444 (by decide) ?_
        refine xg_iadd (pc := 445) B dL_law_445 ?_
        refine xg_sload (pc := 446) B dL_law_446 h (fun x59 ex59 h => ?_)
        refine xg_aload_n (pc := 447) (i := 0) (r := (some (.inr 200))) B dL_law_447 rfl rfl ?_
        refine xg_iload (pc := 448) (i := 4) B dL_law_448 rfl ?_
        refine xg_iconst (pc := 450) (v := 2) B dL_law_450 (by decide) ?_
        refine xg_iadd (pc := 451) B dL_law_451 ?_
        refine xg_sload (pc := 452) B dL_law_452 h (fun x60 ex60 h => ?_)
        refine xg_aload_n (pc := 453) (i := 3) (r := v3) B dL_law_453 rfl rfl ?_
        refine xg_ci (pc := 454) (av := [xj_rv v1, .int x59, .int x60, xj_rv v3]) (st := []) (cy := method_7_code) (nLy := 5) (rety := (some .int)) (hsy := [(0, 10, 13, 25)]) B dL_law_454 (xj_go_s B dL_law_454 swL_79 rfl) swL_79.2.2.1 swL_79.2.2.2.1 (by decide) (by decide) (by decide) rfl (fun r9 h9 => cL_day hl _ _ _ _ _ r9 h9) h (fun x61 A62 eA62 h => ?_)
        refine xg_istore (pc := 457) (i := 5) (ls' := [(5, .int x61), (0, xj_rv (some (.inr 200))), (1, xj_rv v1), (2, xj_rv v2), (3, xj_rv v3), (4, .int v4)]) B dL_law_457 (by decide) ⟨xj_nq (a := 0) (i := 5) (by decide), xj_nq (a := 1) (i := 5) (by decide), xj_nq (a := 2) (i := 5) (by decide), xj_nq (a := 3) (i := 5) (by decide), fun _ => rfl, trivial⟩ rfl ?_
        refine xg_aload_n (pc := 459) (i := 2) (r := v2) B dL_law_459 rfl rfl ?_
        refine xg_aload_n (pc := 460) (i := 0) (r := (some (.inr 200))) B dL_law_460 rfl rfl ?_
        refine xg_iload (pc := 461) (i := 4) B dL_law_461 rfl ?_
        refine xg_iconst (pc := 463) (v := 1) B dL_law_463 (by decide) ?_
        refine xg_iadd (pc := 464) B dL_law_464 ?_
        refine xg_sload (pc := 465) B dL_law_465 h (fun x63 ex63 h => ?_)
        refine xg_aload_n (pc := 466) (i := 0) (r := (some (.inr 200))) B dL_law_466 rfl rfl ?_
        refine xg_iload (pc := 467) (i := 4) B dL_law_467 rfl ?_
        refine xg_iconst (pc := 469) (v := 2) B dL_law_469 (by decide) ?_
        refine xg_iadd (pc := 470) B dL_law_470 ?_
        refine xg_sload (pc := 471) B dL_law_471 h (fun x64 ex64 h => ?_)
        obtain ⟨hq472, h⟩ := xj_rq_i h
        refine xg_ci (pc := 472) (av := [xj_rv v2, .int x63, .int x64]) (st := []) (cy := prog_11_method_42_code) (nLy := 4) (rety := (some .int)) (hsy := []) B dL_law_472 (xj_go_v B dL_law_472 vwL_81 rfl hq472) (xj_vw_c vwL_81) (xj_vw_i vwL_81) (by decide) (by decide) (by decide) rfl (fun r9 h9 => cM_day hl _ _ _ _ r9 h9) h (fun x65 A66 eA66 h => ?_)
        refine xg_istore (pc := 475) (i := 6) (ls' := [(6, .int x65), (5, .int x61), (0, xj_rv (some (.inr 200))), (1, xj_rv v1), (2, xj_rv v2), (3, xj_rv v3), (4, .int v4)]) B dL_law_475 (by decide) ⟨fun _ => rfl, xj_nq (a := 0) (i := 6) (by decide), xj_nq (a := 1) (i := 6) (by decide), xj_nq (a := 2) (i := 6) (by decide), xj_nq (a := 3) (i := 6) (by decide), xj_nq (a := 4) (i := 6) (by decide), trivial⟩ rfl ?_
        refine xg_aload_n (pc := 477) (i := 2) (r := v2) B dL_law_477 rfl rfl ?_
        obtain ⟨hq478, h⟩ := xj_rq_i h
        refine xg_ci (pc := 478) (av := [xj_rv v2]) (st := []) (cy := prog_11_method_2_code) (nLy := 1) (rety := (some .int)) (hsy := []) B dL_law_478 (xj_go_v B dL_law_478 vwL_63 rfl hq478) (xj_vw_c vwL_63) (xj_vw_i vwL_63) (by decide) (by decide) (by decide) rfl (fun r9 h9 => cM_thrown hl _ _ r9 h9) h (fun x67 A68 eA68 h => ?_)
        refine xg_iload (pc := 481) (i := 5) B dL_law_481 rfl ?_
        refine xg_icmp_eq (pc := 483) (tgt := 488) B dL_law_483 (by decide) h (fun c483 h => ?_) (fun c483 h => ?_)
        · refine xg_iload (pc := 488) (i := 5) B dL_law_488 rfl ?_
          refine xg_if_ne (pc := 490) (tgt := 505) B dL_law_490 (by decide) h (fun c490 h => ?_) (fun c490 h => ?_)
          · refine xg_sub (ls' := [(0, xj_rv (some (.inr 200))), (1, xj_rv v1), (2, xj_rv v2), (3, xj_rv v3), (4, .int v4)]) [2, 3, 4, 5, 6] rfl ?_
            exact wL_law_505 hl B _ (wL_law_23 hl B n) _ _ _ _ _ h
          · refine xg_aload_n (pc := 493) (i := 3) (r := v3) B dL_law_493 rfl rfl ?_
            refine xg_iconst (pc := 494) (v := 0) B dL_law_494 (by decide) ?_
            refine xg_laload (pc := 495) B dL_law_495 h (fun x69 ex69 h => ?_)
            refine xg_iload (pc := 496) (i := 6) B dL_law_496 rfl ?_
            refine xg_i2l (pc := 498) B dL_law_498 ?_
            refine xg_lcmp (pc := 499) B dL_law_499 ?_
            refine xg_if_eq (pc := 500) (tgt := 505) B dL_law_500 (by decide) h (fun c500 h => ?_) (fun c500 h => ?_)
            · refine xg_sub (ls' := [(0, xj_rv (some (.inr 200))), (1, xj_rv v1), (2, xj_rv v2), (3, xj_rv v3), (4, .int v4)]) [2, 3, 4, 5, 6] rfl ?_
              exact wL_law_505 hl B _ (wL_law_23 hl B n) _ _ _ _ _ h
            · refine xg_iconst (pc := 503) (v := 0) B dL_law_503 (by decide) ?_
              exact xg_zret B dL_law_504 h
        · refine xg_iconst (pc := 486) (v := 0) B dL_law_486 (by decide) ?_
          exact xg_zret B dL_law_487 h
      rw [if_neg t40_5] at h
      by_cases t40_6 : (x2 &&& (15 : Int32)) = 6
      · rw [if_pos t40_6] at h
        refine xg_tsIn (pc := 40) (tgt := 508) B dL_law_40 (by rw [t40_6]; decide) (by rw [t40_6]; decide) (by rw [t40_6]; rfl) (by decide) ?_
        refine xg_aload_n (pc := 508) (i := 1) (r := v1) B dL_law_508 rfl rfl ?_
        refine xg_aload_n (pc := 509) (i := 0) (r := (some (.inr 200))) B dL_law_509 rfl rfl ?_
        refine xg_iload (pc := 510) (i := 4) B dL_law_510 rfl ?_
        refine xg_iconst (pc := 512) (v := 1) B dL_law_512 (by decide) ?_
        refine xg_iadd (pc := 513) B dL_law_513 ?_
        refine xg_sload (pc := 514) B dL_law_514 h (fun x70 ex70 h => ?_)
        refine xg_aload_n (pc := 515) (i := 0) (r := (some (.inr 200))) B dL_law_515 rfl rfl ?_
        refine xg_iload (pc := 516) (i := 4) B dL_law_516 rfl ?_
        refine xg_iconst (pc := 518) (v := 2) B dL_law_518 (by decide) ?_
        refine xg_iadd (pc := 519) B dL_law_519 ?_
        refine xg_sload (pc := 520) B dL_law_520 h (fun x71 ex71 h => ?_)
        refine xg_aload_n (pc := 521) (i := 3) (r := v3) B dL_law_521 rfl rfl ?_
        refine xg_ci (pc := 522) (av := [xj_rv v1, .int x70, .int x71, xj_rv v3]) (st := []) (cy := method_8_code) (nLy := 5) (rety := (some .int)) (hsy := [(0, 10, 13, 25)]) B dL_law_522 (xj_go_s B dL_law_522 swL_82 rfl) swL_82.2.2.1 swL_82.2.2.2.1 (by decide) (by decide) (by decide) rfl (fun r9 h9 => cL_moment hl _ _ _ _ _ r9 h9) h (fun x72 A73 eA73 h => ?_)
        refine xg_istore (pc := 525) (i := 5) (ls' := [(5, .int x72), (0, xj_rv (some (.inr 200))), (1, xj_rv v1), (2, xj_rv v2), (3, xj_rv v3), (4, .int v4)]) B dL_law_525 (by decide) ⟨xj_nq (a := 0) (i := 5) (by decide), xj_nq (a := 1) (i := 5) (by decide), xj_nq (a := 2) (i := 5) (by decide), xj_nq (a := 3) (i := 5) (by decide), fun _ => rfl, trivial⟩ rfl ?_
        refine xg_aload_n (pc := 527) (i := 2) (r := v2) B dL_law_527 rfl rfl ?_
        refine xg_aload_n (pc := 528) (i := 0) (r := (some (.inr 200))) B dL_law_528 rfl rfl ?_
        refine xg_iload (pc := 529) (i := 4) B dL_law_529 rfl ?_
        refine xg_iconst (pc := 531) (v := 1) B dL_law_531 (by decide) ?_
        refine xg_iadd (pc := 532) B dL_law_532 ?_
        refine xg_sload (pc := 533) B dL_law_533 h (fun x74 ex74 h => ?_)
        refine xg_aload_n (pc := 534) (i := 0) (r := (some (.inr 200))) B dL_law_534 rfl rfl ?_
        refine xg_iload (pc := 535) (i := 4) B dL_law_535 rfl ?_
        refine xg_iconst (pc := 537) (v := 2) B dL_law_537 (by decide) ?_
        refine xg_iadd (pc := 538) B dL_law_538 ?_
        refine xg_sload (pc := 539) B dL_law_539 h (fun x75 ex75 h => ?_)
        obtain ⟨hq540, h⟩ := xj_rq_i h
        refine xg_ci (pc := 540) (av := [xj_rv v2, .int x74, .int x75]) (st := []) (cy := prog_11_method_43_code) (nLy := 4) (rety := (some .int)) (hsy := []) B dL_law_540 (xj_go_v B dL_law_540 vwL_84 rfl hq540) (xj_vw_c vwL_84) (xj_vw_i vwL_84) (by decide) (by decide) (by decide) rfl (fun r9 h9 => cM_moment hl _ _ _ _ r9 h9) h (fun x76 A77 eA77 h => ?_)
        refine xg_istore (pc := 543) (i := 6) (ls' := [(6, .int x76), (5, .int x72), (0, xj_rv (some (.inr 200))), (1, xj_rv v1), (2, xj_rv v2), (3, xj_rv v3), (4, .int v4)]) B dL_law_543 (by decide) ⟨fun _ => rfl, xj_nq (a := 0) (i := 6) (by decide), xj_nq (a := 1) (i := 6) (by decide), xj_nq (a := 2) (i := 6) (by decide), xj_nq (a := 3) (i := 6) (by decide), xj_nq (a := 4) (i := 6) (by decide), trivial⟩ rfl ?_
        refine xg_aload_n (pc := 545) (i := 2) (r := v2) B dL_law_545 rfl rfl ?_
        obtain ⟨hq546, h⟩ := xj_rq_i h
        refine xg_ci (pc := 546) (av := [xj_rv v2]) (st := []) (cy := prog_11_method_2_code) (nLy := 1) (rety := (some .int)) (hsy := []) B dL_law_546 (xj_go_v B dL_law_546 vwL_63 rfl hq546) (xj_vw_c vwL_63) (xj_vw_i vwL_63) (by decide) (by decide) (by decide) rfl (fun r9 h9 => cM_thrown hl _ _ r9 h9) h (fun x78 A79 eA79 h => ?_)
        refine xg_iload (pc := 549) (i := 5) B dL_law_549 rfl ?_
        refine xg_icmp_eq (pc := 551) (tgt := 556) B dL_law_551 (by decide) h (fun c551 h => ?_) (fun c551 h => ?_)
        · refine xg_iload (pc := 556) (i := 5) B dL_law_556 rfl ?_
          refine xg_if_ne (pc := 558) (tgt := 573) B dL_law_558 (by decide) h (fun c558 h => ?_) (fun c558 h => ?_)
          · refine xg_sub (ls' := [(0, xj_rv (some (.inr 200))), (1, xj_rv v1), (2, xj_rv v2), (3, xj_rv v3), (4, .int v4)]) [2, 3, 4, 5, 6] rfl ?_
            exact wL_law_573 hl B _ (wL_law_23 hl B n) _ _ _ _ _ h
          · refine xg_aload_n (pc := 561) (i := 3) (r := v3) B dL_law_561 rfl rfl ?_
            refine xg_iconst (pc := 562) (v := 0) B dL_law_562 (by decide) ?_
            refine xg_laload (pc := 563) B dL_law_563 h (fun x80 ex80 h => ?_)
            refine xg_iload (pc := 564) (i := 6) B dL_law_564 rfl ?_
            refine xg_i2l (pc := 566) B dL_law_566 ?_
            refine xg_lcmp (pc := 567) B dL_law_567 ?_
            refine xg_if_eq (pc := 568) (tgt := 573) B dL_law_568 (by decide) h (fun c568 h => ?_) (fun c568 h => ?_)
            · refine xg_sub (ls' := [(0, xj_rv (some (.inr 200))), (1, xj_rv v1), (2, xj_rv v2), (3, xj_rv v3), (4, .int v4)]) [2, 3, 4, 5, 6] rfl ?_
              exact wL_law_573 hl B _ (wL_law_23 hl B n) _ _ _ _ _ h
            · refine xg_iconst (pc := 571) (v := 0) B dL_law_571 (by decide) ?_
              exact xg_zret B dL_law_572 h
        · refine xg_iconst (pc := 554) (v := 0) B dL_law_554 (by decide) ?_
          exact xg_zret B dL_law_555 h
      rw [if_neg t40_6] at h
      by_cases t40_7 : (x2 &&& (15 : Int32)) = 7
      · rw [if_pos t40_7] at h
        refine xg_tsIn (pc := 40) (tgt := 576) B dL_law_40 (by rw [t40_7]; decide) (by rw [t40_7]; decide) (by rw [t40_7]; rfl) (by decide) ?_
        refine xg_aload_n (pc := 576) (i := 1) (r := v1) B dL_law_576 rfl rfl ?_
        refine xg_aload_n (pc := 577) (i := 0) (r := (some (.inr 200))) B dL_law_577 rfl rfl ?_
        refine xg_iload (pc := 578) (i := 4) B dL_law_578 rfl ?_
        refine xg_iconst (pc := 580) (v := 1) B dL_law_580 (by decide) ?_
        refine xg_iadd (pc := 581) B dL_law_581 ?_
        refine xg_sload (pc := 582) B dL_law_582 h (fun x81 ex81 h => ?_)
        obtain ⟨hq583, h⟩ := xj_rq_i h
        refine xg_ci (pc := 583) (av := [xj_rv v1, .int x81]) (st := []) (cy := prog_1_method_9_code) (nLy := 2) (rety := (some .int)) (hsy := []) B dL_law_583 (xj_go_v B dL_law_583 vwL_85 rfl hq583) (xj_vw_c vwL_85) (xj_vw_i vwL_85) (by decide) (by decide) (by decide) rfl (fun r9 h9 => cB_local hl _ _ _ r9 h9) h (fun x82 A83 eA83 h => ?_)
        refine xg_aload_n (pc := 586) (i := 2) (r := v2) B dL_law_586 rfl rfl ?_
        refine xg_aload_n (pc := 587) (i := 0) (r := (some (.inr 200))) B dL_law_587 rfl rfl ?_
        refine xg_iload (pc := 588) (i := 4) B dL_law_588 rfl ?_
        refine xg_iconst (pc := 590) (v := 1) B dL_law_590 (by decide) ?_
        refine xg_iadd (pc := 591) B dL_law_591 ?_
        refine xg_sload (pc := 592) B dL_law_592 h (fun x84 ex84 h => ?_)
        obtain ⟨hq593, h⟩ := xj_rq_i h
        refine xg_ci (pc := 593) (av := [xj_rv v2, .int x84]) (st := [.int x82]) (cy := prog_11_method_17_code) (nLy := 2) (rety := (some .int)) (hsy := []) B dL_law_593 (xj_go_v B dL_law_593 vwL_88 rfl hq593) (xj_vw_c vwL_88) (xj_vw_i vwL_88) (by decide) (by decide) (by simp [xj_ic, xj_lc, xj_rv_cat]) rfl (fun r9 h9 => cM_local hl _ _ _ r9 h9) h (fun x85 A86 eA86 h => ?_)
        refine xg_icmp_eq (pc := 596) (tgt := 870) B dL_law_596 (by decide) h (fun c596 h => ?_) (fun c596 h => ?_)
        · exact wL_law_870 hl B _ (wL_law_23 hl B n) _ _ _ _ _ h
        · refine xg_iconst (pc := 599) (v := 0) B dL_law_599 (by decide) ?_
          exact xg_zret B dL_law_600 h
      rw [if_neg t40_7] at h
      by_cases t40_8 : (x2 &&& (15 : Int32)) = 8
      · rw [if_pos t40_8] at h
        refine xg_tsIn (pc := 40) (tgt := 601) B dL_law_40 (by rw [t40_8]; decide) (by rw [t40_8]; decide) (by rw [t40_8]; rfl) (by decide) ?_
        refine xg_aload_n (pc := 601) (i := 1) (r := v1) B dL_law_601 rfl rfl ?_
        refine xg_aload_n (pc := 602) (i := 0) (r := (some (.inr 200))) B dL_law_602 rfl rfl ?_
        refine xg_iload (pc := 603) (i := 4) B dL_law_603 rfl ?_
        refine xg_iconst (pc := 605) (v := 1) B dL_law_605 (by decide) ?_
        refine xg_iadd (pc := 606) B dL_law_606 ?_
        refine xg_sload (pc := 607) B dL_law_607 h (fun x87 ex87 h => ?_)
        refine xg_aload_n (pc := 608) (i := 0) (r := (some (.inr 200))) B dL_law_608 rfl rfl ?_
        refine xg_iload (pc := 609) (i := 4) B dL_law_609 rfl ?_
        refine xg_iconst (pc := 611) (v := 2) B dL_law_611 (by decide) ?_
        refine xg_iadd (pc := 612) B dL_law_612 ?_
        refine xg_sload (pc := 613) B dL_law_613 h (fun x88 ex88 h => ?_)
        refine xg_aload_n (pc := 614) (i := 0) (r := (some (.inr 200))) B dL_law_614 rfl rfl ?_
        refine xg_iload (pc := 615) (i := 4) B dL_law_615 rfl ?_
        refine xg_iconst (pc := 617) (v := 3) B dL_law_617 (by decide) ?_
        refine xg_iadd (pc := 618) B dL_law_618 ?_
        refine xg_sload (pc := 619) B dL_law_619 h (fun x89 ex89 h => ?_)
        obtain ⟨hq620, h⟩ := xj_rq_i h
        refine xg_ci (pc := 620) (av := [xj_rv v1, .int x87, .int x88, .int x89]) (st := []) (cy := prog_1_method_10_code) (nLy := 4) (rety := (some .int)) (hsy := []) B dL_law_620 (xj_go_v B dL_law_620 vwL_89 rfl hq620) (xj_vw_c vwL_89) (xj_vw_i vwL_89) (by decide) (by decide) (by decide) rfl (fun r9 h9 => cB_date hl _ _ _ _ _ r9 h9) h (fun x90 A91 eA91 h => ?_)
        refine xg_aload_n (pc := 623) (i := 2) (r := v2) B dL_law_623 rfl rfl ?_
        refine xg_aload_n (pc := 624) (i := 0) (r := (some (.inr 200))) B dL_law_624 rfl rfl ?_
        refine xg_iload (pc := 625) (i := 4) B dL_law_625 rfl ?_
        refine xg_iconst (pc := 627) (v := 1) B dL_law_627 (by decide) ?_
        refine xg_iadd (pc := 628) B dL_law_628 ?_
        refine xg_sload (pc := 629) B dL_law_629 h (fun x92 ex92 h => ?_)
        refine xg_aload_n (pc := 630) (i := 0) (r := (some (.inr 200))) B dL_law_630 rfl rfl ?_
        refine xg_iload (pc := 631) (i := 4) B dL_law_631 rfl ?_
        refine xg_iconst (pc := 633) (v := 2) B dL_law_633 (by decide) ?_
        refine xg_iadd (pc := 634) B dL_law_634 ?_
        refine xg_sload (pc := 635) B dL_law_635 h (fun x93 ex93 h => ?_)
        refine xg_aload_n (pc := 636) (i := 0) (r := (some (.inr 200))) B dL_law_636 rfl rfl ?_
        refine xg_iload (pc := 637) (i := 4) B dL_law_637 rfl ?_
        refine xg_iconst (pc := 639) (v := 3) B dL_law_639 (by decide) ?_
        refine xg_iadd (pc := 640) B dL_law_640 ?_
        refine xg_sload (pc := 641) B dL_law_641 h (fun x94 ex94 h => ?_)
        obtain ⟨hq642, h⟩ := xj_rq_i h
        refine xg_ci (pc := 642) (av := [xj_rv v2, .int x92, .int x93, .int x94]) (st := [.int x90]) (cy := prog_11_method_10_code) (nLy := 4) (rety := (some .int)) (hsy := []) B dL_law_642 (xj_go_v B dL_law_642 vwL_92 rfl hq642) (xj_vw_c vwL_92) (xj_vw_i vwL_92) (by decide) (by decide) (by simp [xj_ic, xj_lc, xj_rv_cat]) rfl (fun r9 h9 => cM_date hl _ _ _ _ _ r9 h9) h (fun x95 A96 eA96 h => ?_)
        refine xg_icmp_eq (pc := 645) (tgt := 870) B dL_law_645 (by decide) h (fun c645 h => ?_) (fun c645 h => ?_)
        · exact wL_law_870 hl B _ (wL_law_23 hl B n) _ _ _ _ _ h
        · refine xg_iconst (pc := 648) (v := 0) B dL_law_648 (by decide) ?_
          exact xg_zret B dL_law_649 h
      rw [if_neg t40_8] at h
      by_cases t40_9 : (x2 &&& (15 : Int32)) = 9
      · rw [if_pos t40_9] at h
        refine xg_tsIn (pc := 40) (tgt := 650) B dL_law_40 (by rw [t40_9]; decide) (by rw [t40_9]; decide) (by rw [t40_9]; rfl) (by decide) ?_
        refine xg_aload_n (pc := 650) (i := 1) (r := v1) B dL_law_650 rfl rfl ?_
        refine xg_aload_n (pc := 651) (i := 0) (r := (some (.inr 200))) B dL_law_651 rfl rfl ?_
        refine xg_iload (pc := 652) (i := 4) B dL_law_652 rfl ?_
        refine xg_iconst (pc := 654) (v := 1) B dL_law_654 (by decide) ?_
        refine xg_iadd (pc := 655) B dL_law_655 ?_
        refine xg_sload (pc := 656) B dL_law_656 h (fun x97 ex97 h => ?_)
        refine xg_aload_n (pc := 657) (i := 0) (r := (some (.inr 200))) B dL_law_657 rfl rfl ?_
        refine xg_iload (pc := 658) (i := 4) B dL_law_658 rfl ?_
        refine xg_iconst (pc := 660) (v := 2) B dL_law_660 (by decide) ?_
        refine xg_iadd (pc := 661) B dL_law_661 ?_
        refine xg_sload (pc := 662) B dL_law_662 h (fun x98 ex98 h => ?_)
        refine xg_aload_n (pc := 663) (i := 3) (r := v3) B dL_law_663 rfl rfl ?_
        refine xg_ci (pc := 664) (av := [xj_rv v1, .int x97, .int x98, xj_rv v3]) (st := []) (cy := method_9_code) (nLy := 5) (rety := (some .int)) (hsy := [(0, 10, 13, 13)]) B dL_law_664 (xj_go_s B dL_law_664 swL_93 rfl) swL_93.2.2.1 swL_93.2.2.2.1 (by decide) (by decide) (by decide) rfl (fun r9 h9 => cL_busy hl _ _ _ _ _ r9 h9) h (fun x99 A100 eA100 h => ?_)
        refine xg_istore (pc := 667) (i := 5) (ls' := [(5, .int x99), (0, xj_rv (some (.inr 200))), (1, xj_rv v1), (2, xj_rv v2), (3, xj_rv v3), (4, .int v4)]) B dL_law_667 (by decide) ⟨xj_nq (a := 0) (i := 5) (by decide), xj_nq (a := 1) (i := 5) (by decide), xj_nq (a := 2) (i := 5) (by decide), xj_nq (a := 3) (i := 5) (by decide), fun _ => rfl, trivial⟩ rfl ?_
        refine xg_aload_n (pc := 669) (i := 2) (r := v2) B dL_law_669 rfl rfl ?_
        refine xg_aload_n (pc := 670) (i := 0) (r := (some (.inr 200))) B dL_law_670 rfl rfl ?_
        refine xg_iload (pc := 671) (i := 4) B dL_law_671 rfl ?_
        refine xg_iconst (pc := 673) (v := 1) B dL_law_673 (by decide) ?_
        refine xg_iadd (pc := 674) B dL_law_674 ?_
        refine xg_sload (pc := 675) B dL_law_675 h (fun x101 ex101 h => ?_)
        refine xg_aload_n (pc := 676) (i := 0) (r := (some (.inr 200))) B dL_law_676 rfl rfl ?_
        refine xg_iload (pc := 677) (i := 4) B dL_law_677 rfl ?_
        refine xg_iconst (pc := 679) (v := 2) B dL_law_679 (by decide) ?_
        refine xg_iadd (pc := 680) B dL_law_680 ?_
        refine xg_sload (pc := 681) B dL_law_681 h (fun x102 ex102 h => ?_)
        obtain ⟨hq682, h⟩ := xj_rq_i h
        refine xg_ci (pc := 682) (av := [xj_rv v2, .int x101, .int x102]) (st := []) (cy := prog_11_method_47_code) (nLy := 9) (rety := (some .int)) (hsy := []) B dL_law_682 (xj_go_v B dL_law_682 vwL_95 rfl hq682) (xj_vw_c vwL_95) (xj_vw_i vwL_95) (by decide) (by decide) (by decide) rfl (fun r9 h9 => cM_busy hl _ _ _ _ r9 h9) h (fun x103 A104 eA104 h => ?_)
        refine xg_istore (pc := 685) (i := 6) (ls' := [(6, .int x103), (5, .int x99), (0, xj_rv (some (.inr 200))), (1, xj_rv v1), (2, xj_rv v2), (3, xj_rv v3), (4, .int v4)]) B dL_law_685 (by decide) ⟨fun _ => rfl, xj_nq (a := 0) (i := 6) (by decide), xj_nq (a := 1) (i := 6) (by decide), xj_nq (a := 2) (i := 6) (by decide), xj_nq (a := 3) (i := 6) (by decide), xj_nq (a := 4) (i := 6) (by decide), trivial⟩ rfl ?_
        refine xg_aload_n (pc := 687) (i := 2) (r := v2) B dL_law_687 rfl rfl ?_
        obtain ⟨hq688, h⟩ := xj_rq_i h
        refine xg_ci (pc := 688) (av := [xj_rv v2]) (st := []) (cy := prog_11_method_2_code) (nLy := 1) (rety := (some .int)) (hsy := []) B dL_law_688 (xj_go_v B dL_law_688 vwL_63 rfl hq688) (xj_vw_c vwL_63) (xj_vw_i vwL_63) (by decide) (by decide) (by decide) rfl (fun r9 h9 => cM_thrown hl _ _ r9 h9) h (fun x105 A106 eA106 h => ?_)
        refine xg_iload (pc := 691) (i := 5) B dL_law_691 rfl ?_
        refine xg_icmp_eq (pc := 693) (tgt := 698) B dL_law_693 (by decide) h (fun c693 h => ?_) (fun c693 h => ?_)
        · refine xg_iload (pc := 698) (i := 5) B dL_law_698 rfl ?_
          refine xg_if_ne (pc := 700) (tgt := 715) B dL_law_700 (by decide) h (fun c700 h => ?_) (fun c700 h => ?_)
          · refine xg_sub (ls' := [(0, xj_rv (some (.inr 200))), (1, xj_rv v1), (2, xj_rv v2), (3, xj_rv v3), (4, .int v4)]) [2, 3, 4, 5, 6] rfl ?_
            exact wL_law_715 hl B _ (wL_law_23 hl B n) _ _ _ _ _ h
          · refine xg_aload_n (pc := 703) (i := 3) (r := v3) B dL_law_703 rfl rfl ?_
            refine xg_iconst (pc := 704) (v := 0) B dL_law_704 (by decide) ?_
            refine xg_laload (pc := 705) B dL_law_705 h (fun x107 ex107 h => ?_)
            refine xg_iload (pc := 706) (i := 6) B dL_law_706 rfl ?_
            refine xg_i2l (pc := 708) B dL_law_708 ?_
            refine xg_lcmp (pc := 709) B dL_law_709 ?_
            refine xg_if_eq (pc := 710) (tgt := 715) B dL_law_710 (by decide) h (fun c710 h => ?_) (fun c710 h => ?_)
            · refine xg_sub (ls' := [(0, xj_rv (some (.inr 200))), (1, xj_rv v1), (2, xj_rv v2), (3, xj_rv v3), (4, .int v4)]) [2, 3, 4, 5, 6] rfl ?_
              exact wL_law_715 hl B _ (wL_law_23 hl B n) _ _ _ _ _ h
            · refine xg_iconst (pc := 713) (v := 0) B dL_law_713 (by decide) ?_
              exact xg_zret B dL_law_714 h
        · refine xg_iconst (pc := 696) (v := 0) B dL_law_696 (by decide) ?_
          exact xg_zret B dL_law_697 h
      rw [if_neg t40_9] at h
      by_cases t40_10 : (x2 &&& (15 : Int32)) = 10
      · rw [if_pos t40_10] at h
        refine xg_tsIn (pc := 40) (tgt := 718) B dL_law_40 (by rw [t40_10]; decide) (by rw [t40_10]; decide) (by rw [t40_10]; rfl) (by decide) ?_
        refine xg_aload_n (pc := 718) (i := 1) (r := v1) B dL_law_718 rfl rfl ?_
        refine xg_aload_n (pc := 719) (i := 0) (r := (some (.inr 200))) B dL_law_719 rfl rfl ?_
        refine xg_iload (pc := 720) (i := 4) B dL_law_720 rfl ?_
        refine xg_iconst (pc := 722) (v := 1) B dL_law_722 (by decide) ?_
        refine xg_iadd (pc := 723) B dL_law_723 ?_
        refine xg_sload (pc := 724) B dL_law_724 h (fun x108 ex108 h => ?_)
        refine xg_aload_n (pc := 725) (i := 0) (r := (some (.inr 200))) B dL_law_725 rfl rfl ?_
        refine xg_iload (pc := 726) (i := 4) B dL_law_726 rfl ?_
        refine xg_iconst (pc := 728) (v := 2) B dL_law_728 (by decide) ?_
        refine xg_iadd (pc := 729) B dL_law_729 ?_
        refine xg_sload (pc := 730) B dL_law_730 h (fun x109 ex109 h => ?_)
        refine xg_if_eq (pc := 731) (tgt := 738) B dL_law_731 (by decide) h (fun c731 h => ?_) (fun c731 h => ?_)
        · refine xg_iconst (pc := 738) (v := 0) B dL_law_738 (by decide) ?_
          exact wL_law_739 hl B _ (wL_law_23 hl B n) _ _ _ _ _ _ _ _ h
        · refine xg_iconst (pc := 734) (v := 1) B dL_law_734 (by decide) ?_
          refine xg_goto (pc := 735) (tgt := 739) B dL_law_735 (by decide) ?_
          exact wL_law_739 hl B _ (wL_law_23 hl B n) _ _ _ _ _ _ _ _ h
      rw [if_neg t40_10] at h
      by_cases t40_11 : (x2 &&& (15 : Int32)) = 11
      · rw [if_pos t40_11] at h
        refine xg_tsIn (pc := 40) (tgt := 802) B dL_law_40 (by rw [t40_11]; decide) (by rw [t40_11]; decide) (by rw [t40_11]; rfl) (by decide) ?_
        refine xg_aload_n (pc := 802) (i := 1) (r := v1) B dL_law_802 rfl rfl ?_
        refine xg_aload_n (pc := 803) (i := 0) (r := (some (.inr 200))) B dL_law_803 rfl rfl ?_
        refine xg_iload (pc := 804) (i := 4) B dL_law_804 rfl ?_
        refine xg_iconst (pc := 806) (v := 1) B dL_law_806 (by decide) ?_
        refine xg_iadd (pc := 807) B dL_law_807 ?_
        refine xg_sload (pc := 808) B dL_law_808 h (fun x110 ex110 h => ?_)
        refine xg_aload_n (pc := 809) (i := 0) (r := (some (.inr 200))) B dL_law_809 rfl rfl ?_
        refine xg_iload (pc := 810) (i := 4) B dL_law_810 rfl ?_
        refine xg_iconst (pc := 812) (v := 2) B dL_law_812 (by decide) ?_
        refine xg_iadd (pc := 813) B dL_law_813 ?_
        refine xg_sload (pc := 814) B dL_law_814 h (fun x111 ex111 h => ?_)
        refine xg_aload_n (pc := 815) (i := 3) (r := v3) B dL_law_815 rfl rfl ?_
        refine xg_ci (pc := 816) (av := [xj_rv v1, .int x110, .int x111, xj_rv v3]) (st := []) (cy := method_11_code) (nLy := 5) (rety := (some .int)) (hsy := [(0, 10, 13, 25)]) B dL_law_816 (xj_go_s B dL_law_816 swL_100 rfl) swL_100.2.2.1 swL_100.2.2.2.1 (by decide) (by decide) (by decide) rfl (fun r9 h9 => cL_clash hl _ _ _ _ _ r9 h9) h (fun x112 A113 eA113 h => ?_)
        refine xg_istore (pc := 819) (i := 5) (ls' := [(5, .int x112), (0, xj_rv (some (.inr 200))), (1, xj_rv v1), (2, xj_rv v2), (3, xj_rv v3), (4, .int v4)]) B dL_law_819 (by decide) ⟨xj_nq (a := 0) (i := 5) (by decide), xj_nq (a := 1) (i := 5) (by decide), xj_nq (a := 2) (i := 5) (by decide), xj_nq (a := 3) (i := 5) (by decide), fun _ => rfl, trivial⟩ rfl ?_
        refine xg_aload_n (pc := 821) (i := 2) (r := v2) B dL_law_821 rfl rfl ?_
        refine xg_aload_n (pc := 822) (i := 0) (r := (some (.inr 200))) B dL_law_822 rfl rfl ?_
        refine xg_iload (pc := 823) (i := 4) B dL_law_823 rfl ?_
        refine xg_iconst (pc := 825) (v := 1) B dL_law_825 (by decide) ?_
        refine xg_iadd (pc := 826) B dL_law_826 ?_
        refine xg_sload (pc := 827) B dL_law_827 h (fun x114 ex114 h => ?_)
        refine xg_aload_n (pc := 828) (i := 0) (r := (some (.inr 200))) B dL_law_828 rfl rfl ?_
        refine xg_iload (pc := 829) (i := 4) B dL_law_829 rfl ?_
        refine xg_iconst (pc := 831) (v := 2) B dL_law_831 (by decide) ?_
        refine xg_iadd (pc := 832) B dL_law_832 ?_
        refine xg_sload (pc := 833) B dL_law_833 h (fun x115 ex115 h => ?_)
        obtain ⟨hq834, h⟩ := xj_rq_i h
        refine xg_ci (pc := 834) (av := [xj_rv v2, .int x114, .int x115]) (st := []) (cy := prog_11_method_49_code) (nLy := 13) (rety := (some .int)) (hsy := []) B dL_law_834 (xj_go_v B dL_law_834 vwL_102 rfl hq834) (xj_vw_c vwL_102) (xj_vw_i vwL_102) (by decide) (by decide) (by decide) rfl (fun r9 h9 => cM_clash hl _ _ _ _ r9 h9) h (fun x116 A117 eA117 h => ?_)
        refine xg_istore (pc := 837) (i := 6) (ls' := [(6, .int x116), (5, .int x112), (0, xj_rv (some (.inr 200))), (1, xj_rv v1), (2, xj_rv v2), (3, xj_rv v3), (4, .int v4)]) B dL_law_837 (by decide) ⟨fun _ => rfl, xj_nq (a := 0) (i := 6) (by decide), xj_nq (a := 1) (i := 6) (by decide), xj_nq (a := 2) (i := 6) (by decide), xj_nq (a := 3) (i := 6) (by decide), xj_nq (a := 4) (i := 6) (by decide), trivial⟩ rfl ?_
        refine xg_aload_n (pc := 839) (i := 2) (r := v2) B dL_law_839 rfl rfl ?_
        obtain ⟨hq840, h⟩ := xj_rq_i h
        refine xg_ci (pc := 840) (av := [xj_rv v2]) (st := []) (cy := prog_11_method_2_code) (nLy := 1) (rety := (some .int)) (hsy := []) B dL_law_840 (xj_go_v B dL_law_840 vwL_63 rfl hq840) (xj_vw_c vwL_63) (xj_vw_i vwL_63) (by decide) (by decide) (by decide) rfl (fun r9 h9 => cM_thrown hl _ _ r9 h9) h (fun x118 A119 eA119 h => ?_)
        refine xg_iload (pc := 843) (i := 5) B dL_law_843 rfl ?_
        refine xg_icmp_eq (pc := 845) (tgt := 850) B dL_law_845 (by decide) h (fun c845 h => ?_) (fun c845 h => ?_)
        · refine xg_iload (pc := 850) (i := 5) B dL_law_850 rfl ?_
          refine xg_if_ne (pc := 852) (tgt := 867) B dL_law_852 (by decide) h (fun c852 h => ?_) (fun c852 h => ?_)
          · refine xg_sub (ls' := [(0, xj_rv (some (.inr 200))), (1, xj_rv v1), (2, xj_rv v2), (3, xj_rv v3), (4, .int v4)]) [2, 3, 4, 5, 6] rfl ?_
            exact wL_law_867 hl B _ (wL_law_23 hl B n) _ _ _ _ _ h
          · refine xg_aload_n (pc := 855) (i := 3) (r := v3) B dL_law_855 rfl rfl ?_
            refine xg_iconst (pc := 856) (v := 0) B dL_law_856 (by decide) ?_
            refine xg_laload (pc := 857) B dL_law_857 h (fun x120 ex120 h => ?_)
            refine xg_iload (pc := 858) (i := 6) B dL_law_858 rfl ?_
            refine xg_i2l (pc := 860) B dL_law_860 ?_
            refine xg_lcmp (pc := 861) B dL_law_861 ?_
            refine xg_if_eq (pc := 862) (tgt := 867) B dL_law_862 (by decide) h (fun c862 h => ?_) (fun c862 h => ?_)
            · refine xg_sub (ls' := [(0, xj_rv (some (.inr 200))), (1, xj_rv v1), (2, xj_rv v2), (3, xj_rv v3), (4, .int v4)]) [2, 3, 4, 5, 6] rfl ?_
              exact wL_law_867 hl B _ (wL_law_23 hl B n) _ _ _ _ _ h
            · refine xg_iconst (pc := 865) (v := 0) B dL_law_865 (by decide) ?_
              exact xg_zret B dL_law_866 h
        · refine xg_iconst (pc := 848) (v := 0) B dL_law_848 (by decide) ?_
          exact xg_zret B dL_law_849 h
      rw [if_neg t40_11] at h
      have n40_0 := lv_neT (a := 0) t40_0 (by decide)
      have n40_1 := lv_neT (a := 1) t40_1 (by decide)
      have n40_2 := lv_neT (a := 2) t40_2 (by decide)
      have n40_3 := lv_neT (a := 3) t40_3 (by decide)
      have n40_4 := lv_neT (a := 4) t40_4 (by decide)
      have n40_5 := lv_neT (a := 5) t40_5 (by decide)
      have n40_6 := lv_neT (a := 6) t40_6 (by decide)
      have n40_7 := lv_neT (a := 7) t40_7 (by decide)
      have n40_8 := lv_neT (a := 8) t40_8 (by decide)
      have n40_9 := lv_neT (a := 9) t40_9 (by decide)
      have n40_10 := lv_neT (a := 10) t40_10 (by decide)
      have n40_11 := lv_neT (a := 11) t40_11 (by decide)
      refine xg_tsOut (pc := 40) (tgt := 870) B dL_law_40 (by omega) (by decide) ?_
      exact wL_law_870 hl B _ (wL_law_23 hl B n) _ _ _ _ _ h
set_option maxHeartbeats 4000000 in
theorem wL_law {l : Launch} (hl : l.stackTraces = false) {z : xj_F} (B : xj_B l yL_law code 7 (some .boolean) [] 12 z) (A : xj_H) (h : fL_law (xf_g z).2.2.2.1 (xf_g z).2.2.2.2 A = some (xf_r z)) : xj_W l z 0 [(0, xj_rv (some (.inr 200)))] [] A := by
  unfold fL_law at h
  refine xg_new (pc := 0) B dL_law_0 nkL_8 h (fun A1 eA1 h => ?_)
  refine xg_dup (pc := 3) B dL_law_3 (xj_rv_cat (xj_o A.1.length)) ?_
  refine xg_cv (pc := 4) (av := [xj_rv (xj_o A.1.length)]) (st := [xj_rv (xj_o A.1.length)]) (cy := prog_1_method_1_code) (nLy := 2) (rety := none) (hsy := []) B dL_law_4 (xj_go_i B dL_law_4 iwL_48 rfl) iwL_48.2.2.1 iwL_48.2.2.2.1 (by decide) (by decide) (by simp [xj_ic, xj_lc, xj_rv_cat]) rfl (fun r9 h9 => cB_init hl _ _ r9 h9) h (fun A2 eA2 h => ?_)
  refine xg_astore_n (pc := 7) (i := 1) (r := (xj_o A.1.length)) (ls' := [(1, xj_rv (xj_o A.1.length)), (0, xj_rv (some (.inr 200)))]) B dL_law_7 rfl (by decide) ⟨fun _ => xj_rv_cat (some (.inr 200)), trivial⟩ rfl ?_
  refine xg_new (pc := 8) B dL_law_8 nkL_49 h (fun A3 eA3 h => ?_)
  refine xg_dup (pc := 11) B dL_law_11 (xj_rv_cat (xj_o A2.1.length)) ?_
  refine xg_cv (pc := 12) (av := [xj_rv (xj_o A2.1.length)]) (st := [xj_rv (xj_o A2.1.length)]) (cy := prog_11_method_1_code) (nLy := 1) (rety := none) (hsy := []) B dL_law_12 (xj_go_i B dL_law_12 iwL_51 rfl) iwL_51.2.2.1 iwL_51.2.2.2.1 (by decide) (by decide) (by simp [xj_ic, xj_lc, xj_rv_cat]) rfl (fun r9 h9 => cM_init hl _ _ r9 h9) h (fun A4 eA4 h => ?_)
  refine xg_astore_n (pc := 15) (i := 2) (r := (xj_o A2.1.length)) (ls' := [(2, xj_rv (xj_o A2.1.length)), (1, xj_rv (xj_o A.1.length)), (0, xj_rv (some (.inr 200)))]) B dL_law_15 rfl (by decide) ⟨fun _ => xj_rv_cat (xj_o A.1.length), xj_nq (a := 0) (i := 2) (by decide), trivial⟩ rfl ?_
  refine xg_iconst (pc := 16) (v := 1) B dL_law_16 (by decide) ?_
  refine xg_newa (pc := 17) (t := 3) (N := 1) (a1 := .inr (.inl (fun _ => 0))) B dL_law_17 rfl (fun _ => rfl) (fun _ h9 => by cases h9) aw_long (fun _ => rfl) (fun _ _ => rfl) (fun _ => trivial) (by decide) (by decide) (by decide) h (fun A5 eA5 h => ?_)
  refine xg_astore_n (pc := 19) (i := 3) (r := (xj_o A4.1.length)) (ls' := [(3, xj_rv (xj_o A4.1.length)), (2, xj_rv (xj_o A2.1.length)), (1, xj_rv (xj_o A.1.length)), (0, xj_rv (some (.inr 200)))]) B dL_law_19 rfl (by decide) ⟨fun _ => xj_rv_cat (xj_o A2.1.length), xj_nq (a := 1) (i := 3) (by decide), xj_nq (a := 0) (i := 3) (by decide), trivial⟩ rfl ?_
  refine xg_iconst (pc := 20) (v := 0) B dL_law_20 (by decide) ?_
  refine xg_istore (pc := 21) (i := 4) (ls' := [(4, .int (0 : Int32)), (3, xj_rv (xj_o A4.1.length)), (2, xj_rv (xj_o A2.1.length)), (1, xj_rv (xj_o A.1.length)), (0, xj_rv (some (.inr 200)))]) B dL_law_21 (by decide) ⟨fun _ => xj_rv_cat (xj_o A4.1.length), xj_nq (a := 2) (i := 4) (by decide), xj_nq (a := 1) (i := 4) (by decide), xj_nq (a := 0) (i := 4) (by decide), trivial⟩ rfl ?_
  refine xg_sub (ls' := [(0, xj_rv (some (.inr 200))), (1, xj_rv (xj_o A.1.length)), (2, xj_rv (xj_o A2.1.length)), (3, xj_rv (xj_o A4.1.length)), (4, .int (0 : Int32))]) [4, 3, 2, 1, 0] rfl ?_
  exact wL_law_23 hl B xj_fu _ _ _ _ _ h

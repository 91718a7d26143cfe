/-! What the Statement gives of the start, as facts about what lies outside the run's cells: each by its place. -/
def xs_fl : List Cond := flatC (Jvm.Cond.and given_1 narrow_1)
theorem xs_at {w : Cond} (i : Nat) (h : xs_fl[i]? = some w) : w ∈ xs_fl := List.mem_of_getElem? h
def xs_tm (i : Nat) : Term := match xj_sr[i]? with
  | some q => .string q.1 q.2.1
  | none => .string "" 0
def xs_s1_k : List Nat := [73, 83, 93, 119, 146, 175, 189, 204, 221, 240, 259, 282, 303, 325, 348, 380, 410, 438, 466, 501, 536, 565]
theorem xs_s1_h : ∀ i, i < 22 → xs_fl[xs_s1_k.getD i 0]? = some (Cond.exactly (xs_tm i) "java/lang/String") := by decide +kernel
theorem xs_s1 : ∀ i, i < 22 → Cond.exactly (xs_tm i) "java/lang/String" ∈ xs_fl := fun i hi => xs_at _ (xs_s1_h i hi)
def xs_s2_k : List Nat := [74, 84, 94, 120, 147, 176, 190, 205, 222, 241, 260, 283, 304, 326, 349, 381, 411, 439, 467, 502, 537, 566]
theorem xs_s2_h : ∀ i, i < 22 → xs_fl[xs_s2_k.getD i 0]? = some (Cond.eq (.field (xs_tm i) "java/lang/String" "coder" "B") (.int 0)) := by decide +kernel
theorem xs_s2 : ∀ i, i < 22 → Cond.eq (.field (xs_tm i) "java/lang/String" "coder" "B") (.int 0) ∈ xs_fl := fun i hi => xs_at _ (xs_s2_h i hi)
def xs_s3_k : List Nat := [75, 85, 95, 121, 148, 177, 191, 206, 223, 242, 261, 284, 305, 327, 350, 382, 412, 440, 468, 503, 538, 567]
theorem xs_s3_h : ∀ i, i < 22 → xs_fl[xs_s3_k.getD i 0]? = some (Cond.arrayOf (.field (xs_tm i) "java/lang/String" "value" "[B") .byte) := by decide +kernel
theorem xs_s3 : ∀ i, i < 22 → Cond.arrayOf (.field (xs_tm i) "java/lang/String" "value" "[B") .byte ∈ xs_fl := fun i hi => xs_at _ (xs_s3_h i hi)
def xs_s4_k : List Nat := [76, 86, 96, 122, 149, 178, 192, 207, 224, 243, 262, 285, 306, 328, 351, 383, 413, 441, 469, 504, 539, 568]
theorem xs_s4_h : ∀ i, i < 22 → xs_fl[xs_s4_k.getD i 0]? = some (Cond.eq (.length (.field (xs_tm i) "java/lang/String" "value" "[B")) (.int (Int32.ofNat (xj_sl.getD i 0)))) := by decide +kernel
theorem xs_s4 : ∀ i, i < 22 → Cond.eq (.length (.field (xs_tm i) "java/lang/String" "value" "[B")) (.int (Int32.ofNat (xj_sl.getD i 0))) ∈ xs_fl := fun i hi => xs_at _ (xs_s4_h i hi)
def xs_s5_k : List (List Nat) := [[77, 78, 79, 80, 81, 82], [87, 88, 89, 90, 91], [97, 98, 99, 100, 101, 102, 103, 104, 105, 106, 107, 108, 109, 110, 111, 112, 113, 114, 115, 116], [123, 124, 125, 126, 127, 128, 129, 130, 131, 132, 133, 134, 135, 136, 137, 138, 139, 140, 141, 142], [150, 151, 152, 153, 154, 155, 156, 157, 158, 159, 160, 161, 162, 163, 164, 165, 166, 167, 168, 169, 170], [179, 180, 181, 182, 183], [193, 194, 195, 196, 197], [208, 209, 210, 211, 212, 213], [225, 226, 227, 228, 229, 230, 231], [244, 245, 246, 247, 248, 249], [263, 264, 265, 266, 267, 268, 269, 270, 271], [286, 287, 288, 289, 290, 291], [307, 308, 309, 310, 311, 312], [329, 330, 331, 332, 333, 334], [352, 353, 354, 355, 356, 357, 358, 359, 360, 361, 362, 363, 364, 365], [384, 385, 386, 387, 388, 389, 390, 391, 392, 393, 394], [414, 415, 416, 417, 418, 419, 420, 421], [442, 443, 444, 445, 446, 447, 448], [470, 471, 472, 473, 474, 475, 476, 477, 478, 479, 480, 481, 482], [505, 506, 507, 508, 509, 510, 511, 512, 513, 514, 515, 516], [540, 541, 542, 543, 544], [569, 570, 571, 572, 573, 574, 575, 576, 577, 578, 579, 580]]
theorem xs_s5_h0 : ∀ i, i < 6 → 0 ≤ i → ∀ j, j < xj_sl.getD i 0 → xs_fl[(xs_s5_k.getD i []).getD j 0]? = some (Cond.eq (.elem (.field (xs_tm i) "java/lang/String" "value" "[B") (.int (Int32.ofNat j))) (.int ((xj_sb.getD i []).getD j 0))) := by decide +kernel
theorem xs_s5_h6 : ∀ i, i < 12 → 6 ≤ i → ∀ j, j < xj_sl.getD i 0 → xs_fl[(xs_s5_k.getD i []).getD j 0]? = some (Cond.eq (.elem (.field (xs_tm i) "java/lang/String" "value" "[B") (.int (Int32.ofNat j))) (.int ((xj_sb.getD i []).getD j 0))) := by decide +kernel
theorem xs_s5_h12 : ∀ i, i < 18 → 12 ≤ i → ∀ j, j < xj_sl.getD i 0 → xs_fl[(xs_s5_k.getD i []).getD j 0]? = some (Cond.eq (.elem (.field (xs_tm i) "java/lang/String" "value" "[B") (.int (Int32.ofNat j))) (.int ((xj_sb.getD i []).getD j 0))) := by decide +kernel
theorem xs_s5_h18 : ∀ i, i < 22 → 18 ≤ i → ∀ j, j < xj_sl.getD i 0 → xs_fl[(xs_s5_k.getD i []).getD j 0]? = some (Cond.eq (.elem (.field (xs_tm i) "java/lang/String" "value" "[B") (.int (Int32.ofNat j))) (.int ((xj_sb.getD i []).getD j 0))) := by decide +kernel
theorem xs_s5 : ∀ i, i < 22 → ∀ j, j < xj_sl.getD i 0 → Cond.eq (.elem (.field (xs_tm i) "java/lang/String" "value" "[B") (.int (Int32.ofNat j))) (.int ((xj_sb.getD i []).getD j 0)) ∈ xs_fl := by
  intro i hi j hj
  refine xs_at ((xs_s5_k.getD i []).getD j 0) ?_
  by_cases h0 : i < 6
  · exact xs_s5_h0 i h0 (by omega) j hj
  by_cases h6 : i < 12
  · exact xs_s5_h6 i h6 (by omega) j hj
  by_cases h12 : i < 18
  · exact xs_s5_h12 i h12 (by omega) j hj
  by_cases h18 : i < 22
  · exact xs_s5_h18 i h18 (by omega) j hj
  omega
def xs_s6_k : List (List Nat) := [[], [92], [117, 118], [143, 144, 145], [171, 172, 173, 174], [184, 185, 186, 187, 188], [198, 199, 200, 201, 202, 203], [214, 215, 216, 217, 218, 219, 220], [232, 233, 234, 235, 236, 237, 238, 239], [250, 251, 252, 253, 254, 255, 256, 257, 258], [272, 273, 274, 275, 276, 277, 278, 279, 280, 281], [292, 293, 294, 295, 296, 297, 298, 299, 300, 301, 302], [313, 314, 315, 316, 317, 318, 319, 320, 321, 322, 323, 324], [335, 336, 337, 338, 339, 340, 341, 342, 343, 344, 345, 346, 347], [366, 367, 368, 369, 370, 371, 372, 373, 374, 375, 376, 377, 378, 379], [395, 396, 397, 398, 399, 400, 401, 402, 403, 404, 405, 406, 407, 408, 409], [422, 423, 424, 425, 426, 427, 428, 429, 430, 431, 432, 433, 434, 435, 436, 437], [449, 450, 451, 452, 453, 454, 455, 456, 457, 458, 459, 460, 461, 462, 463, 464, 465], [483, 484, 485, 486, 487, 488, 489, 490, 491, 492, 493, 494, 495, 496, 497, 498, 499, 500], [517, 518, 519, 520, 521, 522, 523, 524, 525, 526, 527, 528, 529, 530, 531, 532, 533, 534, 535], [545, 546, 547, 548, 549, 550, 551, 552, 553, 554, 555, 556, 557, 558, 559, 560, 561, 562, 563, 564], [581, 582, 583, 584, 585, 586, 587, 588, 589, 590, 591, 592, 593, 594, 595, 596, 597, 598, 599, 600, 601]]
def xs_s6_b : List (List Bool) := [[], [false], [false, false], [false, false, false], [false, false, false, false], [false, false, false, false, false], [false, false, false, false, false, false], [false, false, false, false, false, false, false], [false, false, false, false, false, false, false, false], [false, false, false, false, false, false, false, false, false], [false, false, false, false, false, false, false, false, false, false], [false, false, false, false, false, false, false, false, false, false, false], [false, false, false, false, false, false, false, false, false, false, false, false], [false, false, false, false, false, false, false, false, false, false, false, false, false], [false, false, false, false, false, false, false, false, false, false, false, false, false, false], [false, false, false, false, false, false, false, false, false, false, false, false, false, false, false], [false, false, false, false, false, false, false, false, false, false, false, false, false, false, false, false], [false, false, false, false, false, false, false, false, false, false, false, false, false, false, false, false, false], [false, false, false, false, false, false, false, false, false, false, false, false, false, false, false, false, false, false], [false, false, false, false, false, false, false, false, false, false, false, false, false, false, false, false, false, false, false], [false, false, false, false, false, false, false, false, false, false, false, false, false, false, false, false, false, false, false, false], [false, false, false, false, false, false, false, false, false, false, false, false, false, false, false, false, false, false, false, false, false]]
theorem xs_s6_h0 : ∀ i, i < 4 → 0 ≤ i → ∀ j, j < i → xs_fl[(xs_s6_k.getD i []).getD j 0]? = some (if (xs_s6_b.getD i []).getD j false = true then Cond.not (Cond.eq (xs_tm i) (xs_tm j)) else Cond.not (Cond.eq (xs_tm j) (xs_tm i))) := by decide +kernel
theorem xs_s6_h4 : ∀ i, i < 8 → 4 ≤ i → ∀ j, j < i → xs_fl[(xs_s6_k.getD i []).getD j 0]? = some (if (xs_s6_b.getD i []).getD j false = true then Cond.not (Cond.eq (xs_tm i) (xs_tm j)) else Cond.not (Cond.eq (xs_tm j) (xs_tm i))) := by decide +kernel
theorem xs_s6_h8 : ∀ i, i < 12 → 8 ≤ i → ∀ j, j < i → xs_fl[(xs_s6_k.getD i []).getD j 0]? = some (if (xs_s6_b.getD i []).getD j false = true then Cond.not (Cond.eq (xs_tm i) (xs_tm j)) else Cond.not (Cond.eq (xs_tm j) (xs_tm i))) := by decide +kernel
theorem xs_s6_h12 : ∀ i, i < 16 → 12 ≤ i → ∀ j, j < i → xs_fl[(xs_s6_k.getD i []).getD j 0]? = some (if (xs_s6_b.getD i []).getD j false = true then Cond.not (Cond.eq (xs_tm i) (xs_tm j)) else Cond.not (Cond.eq (xs_tm j) (xs_tm i))) := by decide +kernel
theorem xs_s6_h16 : ∀ i, i < 20 → 16 ≤ i → ∀ j, j < i → xs_fl[(xs_s6_k.getD i []).getD j 0]? = some (if (xs_s6_b.getD i []).getD j false = true then Cond.not (Cond.eq (xs_tm i) (xs_tm j)) else Cond.not (Cond.eq (xs_tm j) (xs_tm i))) := by decide +kernel
theorem xs_s6_h20 : ∀ i, i < 22 → 20 ≤ i → ∀ j, j < i → xs_fl[(xs_s6_k.getD i []).getD j 0]? = some (if (xs_s6_b.getD i []).getD j false = true then Cond.not (Cond.eq (xs_tm i) (xs_tm j)) else Cond.not (Cond.eq (xs_tm j) (xs_tm i))) := by decide +kernel
theorem xs_s6a : ∀ i, i < 22 → ∀ j, j < i → Cond.not (Cond.eq (xs_tm i) (xs_tm j)) ∈ xs_fl ∨ Cond.not (Cond.eq (xs_tm j) (xs_tm i)) ∈ xs_fl := by
  intro i hi j hj
  have h : xs_fl[(xs_s6_k.getD i []).getD j 0]? = some (if (xs_s6_b.getD i []).getD j false = true then Cond.not (Cond.eq (xs_tm i) (xs_tm j)) else Cond.not (Cond.eq (xs_tm j) (xs_tm i))) := by
    by_cases h0 : i < 4
    · exact xs_s6_h0 i h0 (by omega) j hj
    by_cases h4 : i < 8
    · exact xs_s6_h4 i h4 (by omega) j hj
    by_cases h8 : i < 12
    · exact xs_s6_h8 i h8 (by omega) j hj
    by_cases h12 : i < 16
    · exact xs_s6_h12 i h12 (by omega) j hj
    by_cases h16 : i < 20
    · exact xs_s6_h16 i h16 (by omega) j hj
    by_cases h20 : i < 22
    · exact xs_s6_h20 i h20 (by omega) j hj
    omega
  by_cases hb : (xs_s6_b.getD i []).getD j false = true
  · rw [if_pos hb] at h; exact Or.inl (xs_at _ h)
  · rw [if_neg hb] at h; exact Or.inr (xs_at _ h)
theorem xs_s6 : ∀ i, i < 22 → ∀ j, j < 22 → i ≠ j → Cond.not (Cond.eq (xs_tm i) (xs_tm j)) ∈ xs_fl ∨ Cond.not (Cond.eq (xs_tm j) (xs_tm i)) ∈ xs_fl := by
  intro i hi j hj hij
  rcases Nat.lt_or_gt_of_ne hij with h | h
  · exact (xs_s6a j hj i h).symm
  · exact xs_s6a i hi j h
theorem xs_s7 : ∀ i, i < 22 → xj_sl.getD i 0 < 2 ^ 31 := by decide +kernel
def xs_e1_k : List Nat := [21, 28, 31, 35]
theorem xs_e1_h : ∀ i, i < 4 → xs_fl[xs_e1_k.getD i 0]? = some (Cond.exactly (.static xj_fq (xj_fn.getD i "") "LRecurrenceBook$Frequency;") xj_fq) := by decide +kernel
theorem xs_e1 : ∀ i, i < 4 → Cond.exactly (.static xj_fq (xj_fn.getD i "") "LRecurrenceBook$Frequency;") xj_fq ∈ xs_fl := fun i hi => xs_at _ (xs_e1_h i hi)
theorem xs_e2 : ∀ i, i < 4 → ∀ j, j < 4 → i ≠ j → Cond.not (.eq (.static xj_fq (xj_fn.getD i "") "LRecurrenceBook$Frequency;") (.static xj_fq (xj_fn.getD j "") "LRecurrenceBook$Frequency;")) ∈ xs_fl ∨ Cond.not (.eq (.static xj_fq (xj_fn.getD j "") "LRecurrenceBook$Frequency;") (.static xj_fq (xj_fn.getD i "") "LRecurrenceBook$Frequency;")) ∈ xs_fl := by decide +kernel
theorem xs_e3_h : ∀ i, i < 4 → tables_1[[379, 444, 447, 450].getD i 0]? = some (Cond.laysStatic xj_fq (xj_fn.getD i "") "LRecurrenceBook$Frequency;") := by decide +kernel
theorem xs_e3 : ∀ i, i < 4 → Cond.laysStatic xj_fq (xj_fn.getD i "") "LRecurrenceBook$Frequency;" ∈ tables_1 := fun i hi => List.mem_of_getElem? (xs_e3_h i hi)
theorem xs_t1 : Cond.arrayOf (.static "RecurrenceBook$Dates" "DAYS_BEFORE_MONTH" "[I") .int ∈ xs_fl := xs_at 5 (by decide +kernel)
theorem xs_t2 : Cond.eq (.length (.static "RecurrenceBook$Dates" "DAYS_BEFORE_MONTH" "[I")) (.int (Int32.ofNat 12)) ∈ xs_fl := xs_at 6 (by decide +kernel)
def xs_t3_k : List Nat := [7, 8, 9, 10, 11, 12, 13, 14, 15, 16, 17, 18]
theorem xs_t3_h : ∀ i, i < 12 → xs_fl[xs_t3_k.getD i 0]? = some (Cond.eq (.elem (.static "RecurrenceBook$Dates" "DAYS_BEFORE_MONTH" "[I") (.int (Int32.ofNat i))) (.int (xj_dm.getD i 0))) := by decide +kernel
theorem xs_t3 : ∀ i, i < 12 → Cond.eq (.elem (.static "RecurrenceBook$Dates" "DAYS_BEFORE_MONTH" "[I") (.int (Int32.ofNat i))) (.int (xj_dm.getD i 0)) ∈ xs_fl := fun i hi => xs_at _ (xs_t3_h i hi)
def xs_r1_k : List Nat := [235, 263, 264, 290, 373, 384, 441, 442, 445, 448, 451, 464, 469, 476, 497, 505, 518, 535, 670, 699, 716, 738]
theorem xs_r1_h : ∀ i, i < 22 → tables_1[xs_r1_k.getD i 0]? = (xj_sr[i]?).map (fun q => Cond.stringRef q.1 q.2.1 q.2.2.2) ∧ (xj_sr[i]?).map (fun q => q.2.2.1) = some i := by decide +kernel
theorem xs_r1 : ∀ i, i < 22 → ∀ q, xj_sr[i]? = some q → Cond.stringRef q.1 q.2.1 q.2.2.2 ∈ tables_1 ∧ q.2.2.1 = i := by
  intro i hi q hq
  obtain ⟨h1, h2⟩ := xs_r1_h i hi
  rw [hq] at h1 h2
  exact ⟨List.mem_of_getElem? h1, Option.some.inj h2⟩
theorem xs_c1 : Cond.eq (.static "java/lang/String" "COMPACT_STRINGS" "Z") (.int 1) ∈ xs_fl := xs_at 23 (by decide +kernel)
theorem xs_f1 : Cond.isRef (.static xj_jp "SIOOBE_FORMATTER" xj_jf) ∈ xs_fl := xs_at 24 (by decide +kernel)
theorem xs_u1 : Cond.isRef (.static Bundle.tN "UNASSIGNED_STACK" Bundle.steD) ∈ xs_fl := xs_at 19 (by decide +kernel)
theorem xs_u2 : Cond.isRef (.static Bundle.tN "SUPPRESSED_SENTINEL" Bundle.listD) ∈ xs_fl := xs_at 20 (by decide +kernel)
theorem xs_n1 : Cond.not (.castable "java/lang/IllegalArgumentException" "java/lang/IllegalStateException") ∈ xs_fl := xs_at 56 (by decide +kernel)
theorem xs_l1 : Cond.laysStatic "RecurrenceBook$Dates" "DAYS_BEFORE_MONTH" "[I" ∈ tables_1 := List.mem_of_getElem? (i := 66) (by decide +kernel)
theorem xs_l2 : Cond.laysStatic "java/lang/String" "COMPACT_STRINGS" "Z" ∈ tables_1 := List.mem_of_getElem? (i := 398) (by decide +kernel)
theorem xs_l3 : Cond.laysStatic xj_jp "SIOOBE_FORMATTER" xj_jf ∈ tables_1 := List.mem_of_getElem? (i := 414) (by decide +kernel)
theorem xs_l4 : Cond.laysStatic Bundle.tN "UNASSIGNED_STACK" Bundle.steD ∈ tables_1 := List.mem_of_getElem? (i := 221) (by decide +kernel)
theorem xs_l5 : Cond.laysStatic Bundle.tN "SUPPRESSED_SENTINEL" Bundle.listD ∈ tables_1 := List.mem_of_getElem? (i := 223) (by decide +kernel)
theorem xs_i1 : Cond.initialized "RecurrenceBook$Dates" ∈ tables_1 := List.mem_of_getElem? (i := 3) (by decide +kernel)
theorem xs_i2 : Cond.initialized "java/lang/String" ∈ tables_1 := List.mem_of_getElem? (i := 17) (by decide +kernel)
theorem xs_i3 : Cond.initialized xj_jp ∈ tables_1 := List.mem_of_getElem? (i := 19) (by decide +kernel)
theorem xs_i4 : Cond.initialized xj_fq ∈ tables_1 := List.mem_of_getElem? (i := 16) (by decide +kernel)
theorem xs_o1 : Cond.arrayOver (.object xj_en) ∈ tables_1 := List.mem_of_getElem? (i := 71) (by decide +kernel)
theorem xs_a0 : Cond.arrayClass .int ∈ tables_1 := List.mem_of_getElem? (i := 51) (by decide +kernel)
theorem xs_a1 : Cond.arrayClass .char ∈ tables_1 := List.mem_of_getElem? (i := 50) (by decide +kernel)
theorem xs_a2 : Cond.arrayClass .boolean ∈ tables_1 := List.mem_of_getElem? (i := 884) (by decide +kernel)
theorem xs_a3 : Cond.arrayClass .long ∈ tables_1 := List.mem_of_getElem? (i := 1070) (by decide +kernel)
theorem xs_k0 : Cond.instantiable xk0_R 7 ∈ tables_1 := List.mem_of_getElem? (i := 24) (by decide +kernel)
theorem xs_k1 : Cond.instantiable xk1_R 4 ∈ tables_1 := List.mem_of_getElem? (i := 32) (by decide +kernel)
theorem xs_k2 : Cond.instantiable xk2_R 6 ∈ tables_1 := List.mem_of_getElem? (i := 72) (by decide +kernel)
theorem xs_k3 : Cond.instantiable xk3_R 5 ∈ tables_1 := List.mem_of_getElem? (i := 102) (by decide +kernel)
theorem xs_k4 : Cond.instantiable xk4_R 11 ∈ tables_1 := List.mem_of_getElem? (i := 304) (by decide +kernel)
theorem xs_k5 : Cond.instantiable xk5_R 4 ∈ tables_1 := List.mem_of_getElem? (i := 298) (by decide +kernel)
theorem xs_k6 : Cond.instantiable xk6_R 12 ∈ tables_1 := List.mem_of_getElem? (i := 537) (by decide +kernel)
theorem xs_k7 : Cond.instantiable xk7_R 36 ∈ tables_1 := List.mem_of_getElem? (i := 751) (by decide +kernel)

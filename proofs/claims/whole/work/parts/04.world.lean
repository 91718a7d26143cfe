/-! The classes whose objects the run makes, the array types, and what lies outside the run's own cells. -/
def xk0_R : String := "RecurrenceBook"
def xk0_T : u_T := fun k => match k with
  | 0 => ("RecurrenceBook", "typed", "[C", true)
  | 1 => ("RecurrenceBook", "typedCount", "I", false)
  | 2 => ("RecurrenceBook", "present", "LRecurrenceBook$Zone;", true)
  | 3 => ("RecurrenceBook", "events", "[LRecurrenceBook$Event;", true)
  | 4 => ("RecurrenceBook", "eventCount", "I", false)
  | 5 => ("RecurrenceBook", "heads", "[I", true)
  | _ => ("RecurrenceBook", "latest", "LRecurrenceBook$Spans;", true)
def xk0_t : Nat → FieldType := fun k => match k with
  | 0 => (.array (.char))
  | 1 => .int
  | 2 => .object "RecurrenceBook$Zone"
  | 3 => (.array (.object "RecurrenceBook$Event"))
  | 4 => .int
  | 5 => (.array (.int))
  | _ => .object "RecurrenceBook$Spans"
theorem xk0_ty : ∀ j, j < 7 → parseFieldDescriptor (xk0_T j).2.2.1 = some (xk0_t j) := by decide +kernel
theorem xk0_nm : ∀ a, a < 7 → ∀ b, b < 7 → a ≠ b → (xk0_T a).2.1 ≠ (xk0_T b).2.1 := by decide +kernel
theorem xk0_in : ∀ w ∈ u_ws xk0_R xk0_T 7, w ∈ xj_ws := by
  have h : (u_ws xk0_R xk0_T 7) = [133, 135, 137, 139, 141, 143, 145].filterMap (fun i => tables_1[i]?) := by decide +kernel
  have hg : (u_ws xk0_R xk0_T 7).all xj_gd = true := by decide +kernel
  intro w hw
  have h1 := List.all_eq_true.mp hg w hw
  rw [h] at hw
  obtain ⟨i, -, hi⟩ := List.mem_filterMap.mp hw
  exact xm_t i hi h1
def xk1_R : String := "RecurrenceBook$Zone"
def xk1_T : u_T := fun k => match k with
  | 0 => ("RecurrenceBook$Zone", "standard", "I", false)
  | 1 => ("RecurrenceBook$Zone", "summer", "I", false)
  | 2 => ("RecurrenceBook$Zone", "begins", "[I", true)
  | _ => ("RecurrenceBook$Zone", "ends", "[I", true)
def xk1_t : Nat → FieldType := fun k => match k with
  | 0 => .int
  | 1 => .int
  | 2 => (.array (.int))
  | _ => (.array (.int))
theorem xk1_ty : ∀ j, j < 4 → parseFieldDescriptor (xk1_T j).2.2.1 = some (xk1_t j) := by decide +kernel
theorem xk1_nm : ∀ a, a < 4 → ∀ b, b < 4 → a ≠ b → (xk1_T a).2.1 ≠ (xk1_T b).2.1 := by decide +kernel
theorem xk1_in : ∀ w ∈ u_ws xk1_R xk1_T 4, w ∈ xj_ws := by
  have h : (u_ws xk1_R xk1_T 4) = [41, 43, 45, 47].filterMap (fun i => tables_1[i]?) := by decide +kernel
  have hg : (u_ws xk1_R xk1_T 4).all xj_gd = true := by decide +kernel
  intro w hw
  have h1 := List.all_eq_true.mp hg w hw
  rw [h] at hw
  obtain ⟨i, -, hi⟩ := List.mem_filterMap.mp hw
  exact xm_t i hi h1
def xk2_R : String := "RecurrenceBook$Event"
def xk2_T : u_T := fun k => match k with
  | 0 => ("RecurrenceBook$Event", "days", "[I", true)
  | 1 => ("RecurrenceBook$Event", "starts", "[I", true)
  | 2 => ("RecurrenceBook$Event", "count", "I", false)
  | 3 => ("RecurrenceBook$Event", "excluded", "I", false)
  | 4 => ("RecurrenceBook$Event", "minute", "I", false)
  | _ => ("RecurrenceBook$Event", "length", "I", false)
def xk2_t : Nat → FieldType := fun k => match k with
  | 0 => (.array (.int))
  | 1 => (.array (.int))
  | 2 => .int
  | 3 => .int
  | 4 => .int
  | _ => .int
theorem xk2_ty : ∀ j, j < 6 → parseFieldDescriptor (xk2_T j).2.2.1 = some (xk2_t j) := by decide +kernel
theorem xk2_nm : ∀ a, a < 6 → ∀ b, b < 6 → a ≠ b → (xk2_T a).2.1 ≠ (xk2_T b).2.1 := by decide +kernel
theorem xk2_in : ∀ w ∈ u_ws xk2_R xk2_T 6, w ∈ xj_ws := by
  have h : (u_ws xk2_R xk2_T 6) = [88, 90, 92, 94, 96, 98].filterMap (fun i => tables_1[i]?) := by decide +kernel
  have hg : (u_ws xk2_R xk2_T 6).all xj_gd = true := by decide +kernel
  intro w hw
  have h1 := List.all_eq_true.mp hg w hw
  rw [h] at hw
  obtain ⟨i, -, hi⟩ := List.mem_filterMap.mp hw
  exact xm_t i hi h1
def xk3_R : String := "RecurrenceBook$Spans"
def xk3_T : u_T := fun k => match k with
  | 0 => ("RecurrenceBook$Spans", "begins", "[I", true)
  | 1 => ("RecurrenceBook$Spans", "ends", "[I", true)
  | 2 => ("RecurrenceBook$Spans", "count", "I", false)
  | 3 => ("RecurrenceBook$Spans", "from", "I", false)
  | _ => ("RecurrenceBook$Spans", "to", "I", false)
def xk3_t : Nat → FieldType := fun k => match k with
  | 0 => (.array (.int))
  | 1 => (.array (.int))
  | 2 => .int
  | 3 => .int
  | _ => .int
theorem xk3_ty : ∀ j, j < 5 → parseFieldDescriptor (xk3_T j).2.2.1 = some (xk3_t j) := by decide +kernel
theorem xk3_nm : ∀ a, a < 5 → ∀ b, b < 5 → a ≠ b → (xk3_T a).2.1 ≠ (xk3_T b).2.1 := by decide +kernel
theorem xk3_in : ∀ w ∈ u_ws xk3_R xk3_T 5, w ∈ xj_ws := by
  have h : (u_ws xk3_R xk3_T 5) = [115, 117, 119, 121, 123].filterMap (fun i => tables_1[i]?) := by decide +kernel
  have hg : (u_ws xk3_R xk3_T 5).all xj_gd = true := by decide +kernel
  intro w hw
  have h1 := List.all_eq_true.mp hg w hw
  rw [h] at hw
  obtain ⟨i, -, hi⟩ := List.mem_filterMap.mp hw
  exact xm_t i hi h1
def xk4_R : String := "RecurrenceBook$Rule"
def xk4_T : u_T := fun k => match k with
  | 0 => ("RecurrenceBook$Rule", "frequency", "LRecurrenceBook$Frequency;", false)
  | 1 => ("RecurrenceBook$Rule", "interval", "I", false)
  | 2 => ("RecurrenceBook$Rule", "count", "I", false)
  | 3 => ("RecurrenceBook$Rule", "hasUntil", "Z", false)
  | 4 => ("RecurrenceBook$Rule", "until", "I", false)
  | 5 => ("RecurrenceBook$Rule", "months", "I", false)
  | 6 => ("RecurrenceBook$Rule", "numbers", "I", false)
  | 7 => ("RecurrenceBook$Rule", "numbersFromEnd", "I", false)
  | 8 => ("RecurrenceBook$Rule", "weekdays", "I", false)
  | 9 => ("RecurrenceBook$Rule", "nth", "J", false)
  | _ => ("RecurrenceBook$Rule", "nthFromEnd", "J", false)
def xk4_t : Nat → FieldType := fun k => match k with
  | 0 => .object "RecurrenceBook$Frequency"
  | 1 => .int
  | 2 => .int
  | 3 => .boolean
  | 4 => .int
  | 5 => .int
  | 6 => .int
  | 7 => .int
  | 8 => .int
  | 9 => .long
  | _ => .long
theorem xk4_ty : ∀ j, j < 11 → parseFieldDescriptor (xk4_T j).2.2.1 = some (xk4_t j) := by decide +kernel
theorem xk4_nm : ∀ a, a < 11 → ∀ b, b < 11 → a ≠ b → (xk4_T a).2.1 ≠ (xk4_T b).2.1 := by decide +kernel
theorem xk4_in : ∀ w ∈ u_ws xk4_R xk4_T 11, w ∈ xj_ws := by
  have h : (u_ws xk4_R xk4_T 11) = [332, 334, 336, 338, 340, 342, 344, 346, 348, 350, 352].filterMap (fun i => tables_1[i]?) := by decide +kernel
  have hg : (u_ws xk4_R xk4_T 11).all xj_gd = true := by decide +kernel
  intro w hw
  have h1 := List.all_eq_true.mp hg w hw
  rw [h] at hw
  obtain ⟨i, -, hi⟩ := List.mem_filterMap.mp hw
  exact xm_t i hi h1
def xk5_R : String := "RecurrenceBook$RuleReader"
def xk5_T : u_T := fun k => match k with
  | 0 => ("RecurrenceBook$RuleReader", "text", "[C", true)
  | 1 => ("RecurrenceBook$RuleReader", "length", "I", true)
  | 2 => ("RecurrenceBook$RuleReader", "at", "I", false)
  | _ => ("RecurrenceBook$RuleReader", "rule", "LRecurrenceBook$Rule;", true)
def xk5_t : Nat → FieldType := fun k => match k with
  | 0 => (.array (.char))
  | 1 => .int
  | 2 => .int
  | _ => .object "RecurrenceBook$Rule"
theorem xk5_ty : ∀ j, j < 4 → parseFieldDescriptor (xk5_T j).2.2.1 = some (xk5_t j) := by decide +kernel
theorem xk5_nm : ∀ a, a < 4 → ∀ b, b < 4 → a ≠ b → (xk5_T a).2.1 ≠ (xk5_T b).2.1 := by decide +kernel
theorem xk5_in : ∀ w ∈ u_ws xk5_R xk5_T 4, w ∈ xj_ws := by
  have h : (u_ws xk5_R xk5_T 4) = [360, 362, 364, 366].filterMap (fun i => tables_1[i]?) := by decide +kernel
  have hg : (u_ws xk5_R xk5_T 4).all xj_gd = true := by decide +kernel
  intro w hw
  have h1 := List.all_eq_true.mp hg w hw
  rw [h] at hw
  obtain ⟨i, -, hi⟩ := List.mem_filterMap.mp hw
  exact xm_t i hi h1
def xk6_R : String := "RecurrenceBook$Unfolding"
def xk6_T : u_T := fun k => match k with
  | 0 => ("RecurrenceBook$Unfolding", "rule", "LRecurrenceBook$Rule;", true)
  | 1 => ("RecurrenceBook$Unfolding", "first", "I", true)
  | 2 => ("RecurrenceBook$Unfolding", "firstMonth", "I", true)
  | 3 => ("RecurrenceBook$Unfolding", "firstNumber", "I", true)
  | 4 => ("RecurrenceBook$Unfolding", "firstWeekday", "I", true)
  | 5 => ("RecurrenceBook$Unfolding", "interval", "I", true)
  | 6 => ("RecurrenceBook$Unfolding", "limit", "I", true)
  | 7 => ("RecurrenceBook$Unfolding", "row", "[I", true)
  | 8 => ("RecurrenceBook$Unfolding", "count", "I", false)
  | 9 => ("RecurrenceBook$Unfolding", "monthStart", "I", false)
  | 10 => ("RecurrenceBook$Unfolding", "monthLength", "I", false)
  | _ => ("RecurrenceBook$Unfolding", "monthMeant", "Z", false)
def xk6_t : Nat → FieldType := fun k => match k with
  | 0 => .object "RecurrenceBook$Rule"
  | 1 => .int
  | 2 => .int
  | 3 => .int
  | 4 => .int
  | 5 => .int
  | 6 => .int
  | 7 => (.array (.int))
  | 8 => .int
  | 9 => .int
  | 10 => .int
  | _ => .boolean
theorem xk6_ty : ∀ j, j < 12 → parseFieldDescriptor (xk6_T j).2.2.1 = some (xk6_t j) := by decide +kernel
theorem xk6_nm : ∀ a, a < 12 → ∀ b, b < 12 → a ≠ b → (xk6_T a).2.1 ≠ (xk6_T b).2.1 := by decide +kernel
theorem xk6_in : ∀ w ∈ u_ws xk6_R xk6_T 12, w ∈ xj_ws := by
  have h : (u_ws xk6_R xk6_T 12) = [562, 564, 566, 568, 570, 572, 574, 576, 578, 580, 582, 584].filterMap (fun i => tables_1[i]?) := by decide +kernel
  have hg : (u_ws xk6_R xk6_T 12).all xj_gd = true := by decide +kernel
  intro w hw
  have h1 := List.all_eq_true.mp hg w hw
  rw [h] at hw
  obtain ⟨i, -, hi⟩ := List.mem_filterMap.mp hw
  exact xm_t i hi h1
def xk7_R : String := "RecurrenceBookModel"
def xk7_T : u_T := fun k => match k with
  | 0 => ("RecurrenceBookModel", "thrown", "I", false)
  | 1 => ("RecurrenceBookModel", "text", "[I", true)
  | 2 => ("RecurrenceBookModel", "typed", "I", false)
  | 3 => ("RecurrenceBookModel", "standard", "I", false)
  | 4 => ("RecurrenceBookModel", "summer", "I", false)
  | 5 => ("RecurrenceBookModel", "begins", "[I", true)
  | 6 => ("RecurrenceBookModel", "ends", "[I", true)
  | 7 => ("RecurrenceBookModel", "events", "I", false)
  | 8 => ("RecurrenceBookModel", "minutes", "[I", true)
  | 9 => ("RecurrenceBookModel", "lengths", "[I", true)
  | 10 => ("RecurrenceBookModel", "days", "[I", true)
  | 11 => ("RecurrenceBookModel", "many", "[I", true)
  | 12 => ("RecurrenceBookModel", "excluded", "[I", true)
  | 13 => ("RecurrenceBookModel", "excludes", "[I", true)
  | 14 => ("RecurrenceBookModel", "at", "I", false)
  | 15 => ("RecurrenceBookModel", "frequency", "I", false)
  | 16 => ("RecurrenceBookModel", "interval", "I", false)
  | 17 => ("RecurrenceBookModel", "count", "I", false)
  | 18 => ("RecurrenceBookModel", "until", "I", false)
  | 19 => ("RecurrenceBookModel", "byMonth", "Z", false)
  | 20 => ("RecurrenceBookModel", "months", "[Z", true)
  | 21 => ("RecurrenceBookModel", "monthDays", "[I", true)
  | 22 => ("RecurrenceBookModel", "monthDayCount", "I", false)
  | 23 => ("RecurrenceBookModel", "weekdays", "[I", true)
  | 24 => ("RecurrenceBookModel", "nths", "[I", true)
  | 25 => ("RecurrenceBookModel", "weekdayCount", "I", false)
  | 26 => ("RecurrenceBookModel", "year", "I", false)
  | 27 => ("RecurrenceBookModel", "month", "I", false)
  | 28 => ("RecurrenceBookModel", "number", "I", false)
  | 29 => ("RecurrenceBookModel", "firstDay", "I", false)
  | 30 => ("RecurrenceBookModel", "firstYear", "I", false)
  | 31 => ("RecurrenceBookModel", "firstMonth", "I", false)
  | 32 => ("RecurrenceBookModel", "firstNumber", "I", false)
  | 33 => ("RecurrenceBookModel", "spans", "I", false)
  | 34 => ("RecurrenceBookModel", "spanFrom", "[I", true)
  | _ => ("RecurrenceBookModel", "spanTo", "[I", true)
def xk7_t : Nat → FieldType := fun k => match k with
  | 0 => .int
  | 1 => (.array (.int))
  | 2 => .int
  | 3 => .int
  | 4 => .int
  | 5 => (.array (.int))
  | 6 => (.array (.int))
  | 7 => .int
  | 8 => (.array (.int))
  | 9 => (.array (.int))
  | 10 => (.array (.int))
  | 11 => (.array (.int))
  | 12 => (.array (.int))
  | 13 => (.array (.int))
  | 14 => .int
  | 15 => .int
  | 16 => .int
  | 17 => .int
  | 18 => .int
  | 19 => .boolean
  | 20 => (.array (.boolean))
  | 21 => (.array (.int))
  | 22 => .int
  | 23 => (.array (.int))
  | 24 => (.array (.int))
  | 25 => .int
  | 26 => .int
  | 27 => .int
  | 28 => .int
  | 29 => .int
  | 30 => .int
  | 31 => .int
  | 32 => .int
  | 33 => .int
  | 34 => (.array (.int))
  | _ => (.array (.int))
theorem xk7_ty : ∀ j, j < 36 → parseFieldDescriptor (xk7_T j).2.2.1 = some (xk7_t j) := by decide +kernel
theorem xk7_nm : ∀ a, a < 36 → ∀ b, b < 36 → a ≠ b → (xk7_T a).2.1 ≠ (xk7_T b).2.1 := by decide +kernel
theorem xk7_in : ∀ w ∈ u_ws xk7_R xk7_T 36, w ∈ xj_ws := by
  have h : (u_ws xk7_R xk7_T 36) = [811, 813, 815, 817, 819, 821, 823, 825, 827, 829, 831, 833, 835, 837, 839, 841, 843, 845, 847, 849, 851, 853, 855, 857, 859, 861, 863, 865, 867, 869, 871, 873, 875, 877, 879, 881].filterMap (fun i => tables_1[i]?) := by decide +kernel
  have hg : (u_ws xk7_R xk7_T 36).all xj_gd = true := by decide +kernel
  intro w hw
  have h1 := List.all_eq_true.mp hg w hw
  rw [h] at hw
  obtain ⟨i, -, hi⟩ := List.mem_filterMap.mp hw
  exact xm_t i hi h1
def xj_cl : List vw_C := [(xk0_R, xk0_T, 7), (xk1_R, xk1_T, 4), (xk2_R, xk2_T, 6), (xk3_R, xk3_T, 5), (xk4_R, xk4_T, 11), (xk5_R, xk5_T, 4), (xk6_R, xk6_T, 12), (xk7_R, xk7_T, 36)]
def xj_en : String := "RecurrenceBook$Event"
def xj_tys (g : va_G × (Nat → ClassId) × (Nat → Nat) × (Nat → Int32) × Nat) : List (ClassId × FieldType) := [(g.2.1 0, .int), (g.2.1 1, .char), (g.2.1 2, .boolean), (g.2.1 3, .long), (g.2.1 4, .object xj_en)]
def xj_sr : List (String × Nat × Nat × String) := [("RecurrenceBook", 55, 0, "offset"), ("RecurrenceBook", 63, 1, "month"), ("RecurrenceBook", 65, 2, "number of the Sunday"), ("RecurrenceBook", 73, 3, "no room for an event"), ("RecurrenceBook", 84, 4, "day, minute or length"), ("RecurrenceBook$RuleReader", 52, 5, "FREQ="), ("RecurrenceBook$RuleReader", 107, 6, "DAILY"), ("RecurrenceBook$RuleReader", 108, 7, "WEEKLY"), ("RecurrenceBook$RuleReader", 112, 8, "MONTHLY"), ("RecurrenceBook$RuleReader", 116, 9, "YEARLY"), ("RecurrenceBook$RuleReader", 61, 10, "INTERVAL="), ("RecurrenceBook$RuleReader", 69, 11, "COUNT="), ("RecurrenceBook$RuleReader", 74, 12, "UNTIL="), ("RecurrenceBook$RuleReader", 83, 13, "BYDAY="), ("RecurrenceBook$RuleReader", 152, 14, "MOTUWETHFRSASU"), ("RecurrenceBook$RuleReader", 91, 15, "BYMONTHDAY="), ("RecurrenceBook$RuleReader", 99, 16, "BYMONTH="), ("RecurrenceBook", 90, 17, "no rule"), ("RecurrenceBook", 178, 18, "no such event"), ("RecurrenceBook", 180, 19, "no such time"), ("RecurrenceBook", 144, 20, "width"), ("RecurrenceBook", 165, 21, "no such span")]
def xj_sl : List Nat := [6, 5, 20, 20, 21, 5, 5, 6, 7, 6, 9, 6, 6, 6, 14, 11, 8, 7, 13, 12, 5, 12]
def xj_sb : List (List Int32) := [[111, 102, 102, 115, 101, 116], [109, 111, 110, 116, 104], [110, 117, 109, 98, 101, 114, 32, 111, 102, 32, 116, 104, 101, 32, 83, 117, 110, 100, 97, 121], [110, 111, 32, 114, 111, 111, 109, 32, 102, 111, 114, 32, 97, 110, 32, 101, 118, 101, 110, 116], [100, 97, 121, 44, 32, 109, 105, 110, 117, 116, 101, 32, 111, 114, 32, 108, 101, 110, 103, 116, 104], [70, 82, 69, 81, 61], [68, 65, 73, 76, 89], [87, 69, 69, 75, 76, 89], [77, 79, 78, 84, 72, 76, 89], [89, 69, 65, 82, 76, 89], [73, 78, 84, 69, 82, 86, 65, 76, 61], [67, 79, 85, 78, 84, 61], [85, 78, 84, 73, 76, 61], [66, 89, 68, 65, 89, 61], [77, 79, 84, 85, 87, 69, 84, 72, 70, 82, 83, 65, 83, 85], [66, 89, 77, 79, 78, 84, 72, 68, 65, 89, 61], [66, 89, 77, 79, 78, 84, 72, 61], [110, 111, 32, 114, 117, 108, 101], [110, 111, 32, 115, 117, 99, 104, 32, 101, 118, 101, 110, 116], [110, 111, 32, 115, 117, 99, 104, 32, 116, 105, 109, 101], [119, 105, 100, 116, 104], [110, 111, 32, 115, 117, 99, 104, 32, 115, 112, 97, 110]]
def xj_dm : List Int32 := [0, 31, 59, 90, 120, 151, 181, 212, 243, 273, 304, 334]
def xj_fq : String := "RecurrenceBook$Frequency"
def xj_fn : List String := ["DAILY", "WEEKLY", "MONTHLY", "YEARLY"]
def xj_jp : String := "jdk/internal/util/Preconditions"
def xj_jf : String := "Ljava/util/function/BiFunction;"
/-- a static field of a class, where it lies: null or some reference -/
def xj_L (C n d : String) (A : Nat → Prop) (U : State) (H : Heap) : Prop := ∃ (c : ClassId) (k : Class) (i : Nat) (f : Field) (a : Nat) (cell : Cell) (v : Value), U.vm.findClass C = some c ∧ U.fieldFound? C n d = some (c, k, i, f) ∧ f.isStatic = true ∧ k.statics = some a ∧ H[a]? = some cell ∧ cell.vm.isStatics = true ∧ cell.cls = c ∧ f.slot < cell.slots.size ∧ k.staticTypes[f.slot]? = some f.type ∧ cell.slots[f.slot]? = some v ∧ (v = .null ∨ ∃ b, v = .ref b) ∧ ¬ A a
theorem xj_L.moved {C n d : String} {A : Nat → Prop} {u U : State} {H : Heap} (hvm : u.vm.Alike U.vm) (h : xj_L C n d A u H) : xj_L C n d A U H := by
  obtain ⟨c, k, i, f, a, cell, v, h1, h2, h3, h4, h5, h6, h7, h8, h9, h10⟩ := h
  obtain ⟨k', hi', he⟩ := State.fieldFound?_setVm hvm h2
  exact ⟨c, k', i, f, a, cell, v, by rw [hvm.findClass]; exact h1, hi', h3, by rw [he]; exact h4, h5, h6, h7, h8, by rw [he]; exact h9, h10⟩
theorem xj_L.kept {C n d : String} {A : Nat → Prop} {U : State} {H H1 : Heap} (h : xj_L C n d A U H) (hq : ∀ a : Nat, a < H.size → ¬ A a → H1[a]? = H[a]?) : xj_L C n d A U H1 := by
  obtain ⟨c, k, i, f, a, cell, v, h1, h2, h3, h4, h5, h6, h7, h8, h9, h10, h11, h12⟩ := h
  exact ⟨c, k, i, f, a, cell, v, h1, h2, h3, h4, by rw [hq a (Array.getElem?_eq_some_iff.mp h5).1 h12]; exact h5, h6, h7, h8, h9, h10, h11, h12⟩
theorem xj_L.narrow {C n d : String} {A B : Nat → Prop} {U : State} {H : Heap} (h : xj_L C n d A U H) (hAB : ∀ q, B q → A q) : xj_L C n d B U H := by
  obtain ⟨c, k, i, f, a, cell, v, h1, h2, h3, h4, h5, h6, h7, h8, h9, h10, h11, h12⟩ := h
  exact ⟨c, k, i, f, a, cell, v, h1, h2, h3, h4, h5, h6, h7, h8, h9, h10, h11, fun q => h12 (hAB _ q)⟩
theorem xj_L.lays {C n d : String} {A : Nat → Prop} {s : State} {args : Array Value} (h : xj_L C n d A s s.heap) : (Cond.laysStatic C n d).before args s = true := by
  obtain ⟨c, k, i, f, a, cell, v, h1, h2, h3, h4, h5, h6, h7, h8, h9, -⟩ := h
  show (Cond.laysStatic C n d).holds args s none s [] = true
  exact Cond.laysStatic_of h1 h2 h3 h4 h5 h6 h7 h8 h9
theorem xj_L.isRef {C n d : String} {A : Nat → Prop} {s : State} {args : Array Value} (h : xj_L C n d A s s.heap) : (Cond.isRef (.static C n d)).before args s = true := by
  obtain ⟨c, k, i, f, a, cell, v, h1, h2, h3, h4, h5, h6, h7, h8, h9, h10, h11, h12⟩ := h
  have he : (Term.static C n d).eval args s none [] s = some v := by
    simp [Term.eval, State.fieldNamed?, h2, h3, h4, h5, h6, h10]
  rcases h11 with rfl | ⟨b, rfl⟩ <;> simp [Cond.before, Cond.holds, Cond.value, he]
theorem xj_L.of {C n d : String} {A : Nat → Prop} {s : State} {args : Array Value} (hl : (Cond.laysStatic C n d).before args s = true) (h : (Cond.isRef (.static C n d)).before args s = true) (hA : ∀ a : Nat, a < s.heap.size → ¬ A a) : xj_L C n d A s s.heap := by
  obtain ⟨c, k, i, f, a, cell, h1, h2, h3, h4, h5, h6, h7, h8, h9⟩ := Cond.laysStatic_spec hl
  have hv : cell.slots[f.slot]? = some (cell.slots[f.slot]'h8) := Array.getElem?_eq_getElem h8
  generalize cell.slots[f.slot]'h8 = v at hv
  have he : (Term.static C n d).eval args s none [] s = some v := by
    simp [Term.eval, State.fieldNamed?, h2, h3, h4, h5, h6, hv]
  refine ⟨c, k, i, f, a, cell, v, h1, h2, h3, h4, h5, h6, h7, h8, h9, hv, ?_, hA a (Array.getElem?_eq_some_iff.mp h5).1⟩
  simp only [Cond.before, Cond.holds, Cond.value, he] at h
  cases v with
  | null => exact Or.inl rfl
  | ref b => exact Or.inr ⟨b, rfl⟩
  | _ => simp at h
/-- what the run reads outside its own cells: strings, enum constants, a static table, the script -/
def xj_S (g : va_G × (Nat → ClassId) × (Nat → Nat) × (Nat → Int32) × Nat) (A : Nat → Prop) (U : State) (H : Heap) : Prop :=
  vk_S 22 xj_sl xj_sb (fun i => g.2.2.1 (100 + i)) (fun i => g.2.2.1 (300 + i)) A U H ∧ va_AO xj_en U ∧
  xj_L Bundle.tN "UNASSIGNED_STACK" Bundle.steD A U H ∧ xj_L Bundle.tN "SUPPRESSED_SENTINEL" Bundle.listD A U H ∧
  va_En xj_fq "LRecurrenceBook$Frequency;" xj_fn [] (fun i => g.2.2.1 i) A U H ∧
  va_Z "RecurrenceBook$Dates" "DAYS_BEFORE_MONTH" "[I" (.ref (g.2.2.1 50)) A U H ∧ va_T .int (g.2.2.1 50) 12 (fun j => .int (xj_dm.getD j 0)) A U H ∧
  (∀ q ∈ xj_sr, vk_R q.1 q.2.1 q.2.2.2 (g.2.2.1 (100 + q.2.2.1)) U) ∧
  va_Z "java/lang/String" "COMPACT_STRINGS" "Z" (.int 1) A U H ∧
  (va_Z xj_jp "SIOOBE_FORMATTER" xj_jf .null A U H ∨ va_Z xj_jp "SIOOBE_FORMATTER" xj_jf (.ref (g.2.2.1 60)) A U H) ∧
  (va_X (g.2.2.1 200) g.2.2.2.2 g.2.2.2.1 U H ∧ ¬ A (g.2.2.1 200)) ∧
  va_Nc "java/lang/IllegalArgumentException" "java/lang/IllegalStateException" U
theorem xj_S.warm {g : va_G × (Nat → ClassId) × (Nat → Nat) × (Nat → Int32) × Nat} {A : Nat → Prop} {s U : State} {H : Heap} (hW : s.WarmedH U.vm) (h : xj_S g A s H) : xj_S g A U H := by
  obtain ⟨h1, h2, h3, h4, h5, h6, h7, h8, h9, h10, h11, h12⟩ := h
  have ha := hW.alike
  exact ⟨vk_S.moved ha h1, va_AO.moved ha h2, xj_L.moved ha h3, xj_L.moved ha h4, va_En.moved ha h5, va_Z.moved ha h6, va_T.moved ha h7, fun q hq => vk_R.warm hW (h8 q hq), va_Z.moved ha h9, h10.elim (fun h => Or.inl (va_Z.moved ha h)) (fun h => Or.inr (va_Z.moved ha h)), ⟨va_X.moved ha h11.1, h11.2⟩, va_Nc.moved ha h12⟩
theorem xj_S.kept {g : va_G × (Nat → ClassId) × (Nat → Nat) × (Nat → Int32) × Nat} {A : Nat → Prop} {U : State} {H H1 : Heap} (h : xj_S g A U H) (hq : ∀ a : Nat, a < H.size → ¬ A a → H1[a]? = H[a]?) : xj_S g A U H1 := by
  obtain ⟨h1, h2, h3, h4, h5, h6, h7, h8, h9, h10, h11, h12⟩ := h
  have hb : g.2.2.1 200 < H.size := by
    obtain ⟨scr, hs, -⟩ := h11.1
    exact (Array.getElem?_eq_some_iff.mp hs).1
  exact ⟨vk_S.kept h1 hq, h2, xj_L.kept h3 hq, xj_L.kept h4 hq, va_En.kept h5 hq, va_Z.kept h6 hq, va_T.kept h7 hq, h8, va_Z.kept h9 hq, h10.elim (fun h => Or.inl (va_Z.kept h hq)) (fun h => Or.inr (va_Z.kept h hq)), ⟨va_X.kept h11.1 (hq _ hb h11.2), h11.2⟩, h12⟩
theorem xj_S.narrow {g : va_G × (Nat → ClassId) × (Nat → Nat) × (Nat → Int32) × Nat} {A B : Nat → Prop} {U : State} {H : Heap} (h : xj_S g A U H) (hAB : ∀ q, B q → A q) : xj_S g B U H := by
  obtain ⟨h1, h2, h3, h4, h5, h6, h7, h8, h9, h10, h11, h12⟩ := h
  exact ⟨vk_S.narrow h1 hAB, h2, xj_L.narrow h3 hAB, xj_L.narrow h4 hAB, va_En.narrow h5 hAB, va_Z.narrow h6 hAB, va_T.narrow h7 hAB, h8, va_Z.narrow h9 hAB, h10.elim (fun h => Or.inl (va_Z.narrow h hAB)) (fun h => Or.inr (va_Z.narrow h hAB)), ⟨h11.1, fun q => h11.2 (hAB _ q)⟩, h12⟩
theorem xj_S.str {g : va_G × (Nat → ClassId) × (Nat → Nat) × (Nat → Int32) × Nat} {A : Nat → Prop} {U : State} {H : Heap} (h : xj_S g A U H) {own tx : String} {k i : Nat} (hq : (own, k, i, tx) ∈ xj_sr) : vk_R own k tx (g.2.2.1 (100 + i)) U := h.2.2.2.2.2.2.2.1 _ hq

/-! Words, classes, fields. -/
def jT : List Cond := lw_tbl.filter goodWord
theorem tbl_good : j_good jT := fun _ hw => good_of_word (List.mem_filter.mp hw).2
theorem jm {w : Cond} (i : Nat) (h : lw_tbl[i]? = some w) (g : goodWord w = true) : w ∈ jT := List.mem_filter.mpr ⟨List.mem_of_getElem? h, g⟩
def T_0 : u_T := fun k => match k with
  | 0 => ("MissionDesk", "handlers", "[LMissionDesk$Handler;", true)
  | 1 => ("MissionDesk", "ceilings", "[I", true)
  | 2 => ("MissionDesk", "turns", "LMissionDesk$Turns;", true)
  | 3 => ("MissionDesk", "area", "LMissionDesk$MissionArea;", true)
  | 4 => ("MissionDesk", "journal", "LMissionDesk$Journal;", true)
  | 5 => ("MissionDesk", "phase", "I", false)
  | 6 => ("MissionDesk", "level", "I", false)
  | 7 => ("MissionDesk", "time", "I", false)
  | 8 => ("MissionDesk", "missions", "I", false)
  | 9 => ("MissionDesk", "notDone", "I", false)
  | 10 => ("MissionDesk", "arrivals", "I", false)
  | 11 => ("MissionDesk", "pointed", "I", false)
  | 12 => ("MissionDesk", "made", "I", false)
  | 13 => ("MissionDesk", "overruns", "I", false)
  | 14 => ("MissionDesk", "gone", "I", false)
  | _ => ("MissionDesk", "idleTicks", "I", false)
def ty_0 : Nat → FieldType := fun k => match k with
  | 0 => .array (.object "MissionDesk$Handler")
  | 1 => .array .int
  | 2 => .object "MissionDesk$Turns"
  | 3 => .object "MissionDesk$MissionArea"
  | 4 => .object "MissionDesk$Journal"
  | 5 => .int
  | 6 => .int
  | 7 => .int
  | 8 => .int
  | 9 => .int
  | 10 => .int
  | 11 => .int
  | 12 => .int
  | 13 => .int
  | 14 => .int
  | _ => .int
set_option maxRecDepth 20000 in
theorem nm_0 : ∀ a, a < 16 → ∀ b, b < 16 → a ≠ b → (T_0 a).2.1 ≠ (T_0 b).2.1 := by decide +kernel
theorem ty_0_ok : ∀ k, k < 16 → parseFieldDescriptor (T_0 k).2.2.1 = some (ty_0 k) := by decide +kernel
set_option maxRecDepth 20000 in
theorem in0_0 : u_ws "MissionDesk" T_0 16 = [331, 333, 335, 337, 339, 341, 343, 345, 347, 349, 351, 353, 355, 357, 359, 361].filterMap (fun i => lw_tbl[i]?) := by decide +kernel
theorem in1_0 : (u_ws "MissionDesk" T_0 16).all goodWord = true := by decide +kernel
theorem in_0 : ∀ w ∈ u_ws "MissionDesk" T_0 16, w ∈ jT := fun w hw => by
  have hg := List.all_eq_true.mp in1_0 w hw
  rw [in0_0] at hw
  obtain ⟨i, -, hi⟩ := List.mem_filterMap.mp hw
  exact jm i hi hg
def T_1 : u_T := fun k => match k with
  | 0 => ("MissionDesk$Handler", "there", "Z", false)
  | 1 => ("MissionDesk$Handler", "kind", "I", false)
  | 2 => ("MissionDesk$Handler", "priority", "I", false)
  | 3 => ("MissionDesk$Handler", "first", "I", false)
  | 4 => ("MissionDesk$Handler", "every", "I", false)
  | 5 => ("MissionDesk$Handler", "deadline", "I", false)
  | 6 => ("MissionDesk$Handler", "miss", "I", false)
  | 7 => ("MissionDesk$Handler", "budget", "I", false)
  | 8 => ("MissionDesk$Handler", "steps", "I", false)
  | 9 => ("MissionDesk$Handler", "ops", "[I", true)
  | 10 => ("MissionDesk$Handler", "args", "[I", true)
  | 11 => ("MissionDesk$Handler", "counts", "[I", true)
  | 12 => ("MissionDesk$Handler", "line", "LMissionDesk$Line;", true)
  | _ => ("MissionDesk$Handler", "nextAt", "I", false)
def ty_1 : Nat → FieldType := fun k => match k with
  | 0 => .boolean
  | 1 => .int
  | 2 => .int
  | 3 => .int
  | 4 => .int
  | 5 => .int
  | 6 => .int
  | 7 => .int
  | 8 => .int
  | 9 => .array .int
  | 10 => .array .int
  | 11 => .array .int
  | 12 => .object "MissionDesk$Line"
  | _ => .int
set_option maxRecDepth 20000 in
theorem nm_1 : ∀ a, a < 14 → ∀ b, b < 14 → a ≠ b → (T_1 a).2.1 ≠ (T_1 b).2.1 := by decide +kernel
theorem ty_1_ok : ∀ k, k < 14 → parseFieldDescriptor (T_1 k).2.2.1 = some (ty_1 k) := by decide +kernel
set_option maxRecDepth 20000 in
theorem in0_1 : u_ws "MissionDesk$Handler" T_1 14 = [211, 213, 215, 217, 219, 221, 223, 225, 227, 229, 231, 233, 235, 237].filterMap (fun i => lw_tbl[i]?) := by decide +kernel
theorem in1_1 : (u_ws "MissionDesk$Handler" T_1 14).all goodWord = true := by decide +kernel
theorem in_1 : ∀ w ∈ u_ws "MissionDesk$Handler" T_1 14, w ∈ jT := fun w hw => by
  have hg := List.all_eq_true.mp in1_1 w hw
  rw [in0_1] at hw
  obtain ⟨i, -, hi⟩ := List.mem_filterMap.mp hw
  exact jm i hi hg
def T_2 : u_T := fun k => match k with
  | 0 => ("MissionDesk$Line", "ring", "[LMissionDesk$Release;", true)
  | 1 => ("MissionDesk$Line", "head", "I", false)
  | _ => ("MissionDesk$Line", "size", "I", false)
def ty_2 : Nat → FieldType := fun k => match k with
  | 0 => .array (.object "MissionDesk$Release")
  | 1 => .int
  | _ => .int
set_option maxRecDepth 20000 in
theorem nm_2 : ∀ a, a < 3 → ∀ b, b < 3 → a ≠ b → (T_2 a).2.1 ≠ (T_2 b).2.1 := by decide +kernel
theorem ty_2_ok : ∀ k, k < 3 → parseFieldDescriptor (T_2 k).2.2.1 = some (ty_2 k) := by decide +kernel
set_option maxRecDepth 20000 in
theorem in0_2 : u_ws "MissionDesk$Line" T_2 3 = [177, 179, 181].filterMap (fun i => lw_tbl[i]?) := by decide +kernel
theorem in1_2 : (u_ws "MissionDesk$Line" T_2 3).all goodWord = true := by decide +kernel
theorem in_2 : ∀ w ∈ u_ws "MissionDesk$Line" T_2 3, w ∈ jT := fun w hw => by
  have hg := List.all_eq_true.mp in1_2 w hw
  rw [in0_2] at hw
  obtain ⟨i, -, hi⟩ := List.mem_filterMap.mp hw
  exact jm i hi hg
def T_3 : u_T := fun k => match k with
  | 0 => ("MissionDesk$Release", "owner", "I", true)
  | 1 => ("MissionDesk$Release", "scopes", "LMissionDesk$Scopes;", true)
  | 2 => ("MissionDesk$Release", "held", "LMissionDesk$HeldLocks;", true)
  | 3 => ("MissionDesk$Release", "cameAt", "I", false)
  | 4 => ("MissionDesk$Release", "arrival", "I", false)
  | 5 => ("MissionDesk$Release", "begun", "Z", false)
  | 6 => ("MissionDesk$Release", "nextStep", "I", false)
  | _ => ("MissionDesk$Release", "ticksDone", "I", false)
def ty_3 : Nat → FieldType := fun k => match k with
  | 0 => .int
  | 1 => .object "MissionDesk$Scopes"
  | 2 => .object "MissionDesk$HeldLocks"
  | 3 => .int
  | 4 => .int
  | 5 => .boolean
  | 6 => .int
  | _ => .int
set_option maxRecDepth 20000 in
theorem nm_3 : ∀ a, a < 8 → ∀ b, b < 8 → a ≠ b → (T_3 a).2.1 ≠ (T_3 b).2.1 := by decide +kernel
theorem ty_3_ok : ∀ k, k < 8 → parseFieldDescriptor (T_3 k).2.2.1 = some (ty_3 k) := by decide +kernel
set_option maxRecDepth 20000 in
theorem in0_3 : u_ws "MissionDesk$Release" T_3 8 = [156, 158, 160, 162, 164, 166, 168, 170].filterMap (fun i => lw_tbl[i]?) := by decide +kernel
theorem in1_3 : (u_ws "MissionDesk$Release" T_3 8).all goodWord = true := by decide +kernel
theorem in_3 : ∀ w ∈ u_ws "MissionDesk$Release" T_3 8, w ∈ jT := fun w hw => by
  have hg := List.all_eq_true.mp in1_3 w hw
  rw [in0_3] at hw
  obtain ⟨i, -, hi⟩ := List.mem_filterMap.mp hw
  exact jm i hi hg
def T_4 : u_T := fun k => match k with
  | 0 => ("MissionDesk$Scopes", "left", "[I", true)
  | 1 => ("MissionDesk$Scopes", "taken", "[I", true)
  | 2 => ("MissionDesk$Scopes", "depth", "I", false)
  | 3 => ("MissionDesk$Scopes", "sizes", "[I", true)
  | 4 => ("MissionDesk$Scopes", "depths", "[I", true)
  | _ => ("MissionDesk$Scopes", "objects", "I", false)
def ty_4 : Nat → FieldType := fun k => match k with
  | 0 => .array .int
  | 1 => .array .int
  | 2 => .int
  | 3 => .array .int
  | 4 => .array .int
  | _ => .int
set_option maxRecDepth 20000 in
theorem nm_4 : ∀ a, a < 6 → ∀ b, b < 6 → a ≠ b → (T_4 a).2.1 ≠ (T_4 b).2.1 := by decide +kernel
theorem ty_4_ok : ∀ k, k < 6 → parseFieldDescriptor (T_4 k).2.2.1 = some (ty_4 k) := by decide +kernel
set_option maxRecDepth 20000 in
theorem in0_4 : u_ws "MissionDesk$Scopes" T_4 6 = [108, 110, 112, 114, 116, 118].filterMap (fun i => lw_tbl[i]?) := by decide +kernel
theorem in1_4 : (u_ws "MissionDesk$Scopes" T_4 6).all goodWord = true := by decide +kernel
theorem in_4 : ∀ w ∈ u_ws "MissionDesk$Scopes" T_4 6, w ∈ jT := fun w hw => by
  have hg := List.all_eq_true.mp in1_4 w hw
  rw [in0_4] at hw
  obtain ⟨i, -, hi⟩ := List.mem_filterMap.mp hw
  exact jm i hi hg
def T_5 : u_T := fun k => match k with
  | 0 => ("MissionDesk$HeldLocks", "locks", "[I", true)
  | _ => ("MissionDesk$HeldLocks", "size", "I", false)
def ty_5 : Nat → FieldType := fun k => match k with
  | 0 => .array .int
  | _ => .int
set_option maxRecDepth 20000 in
theorem nm_5 : ∀ a, a < 2 → ∀ b, b < 2 → a ≠ b → (T_5 a).2.1 ≠ (T_5 b).2.1 := by decide +kernel
theorem ty_5_ok : ∀ k, k < 2 → parseFieldDescriptor (T_5 k).2.2.1 = some (ty_5 k) := by decide +kernel
set_option maxRecDepth 20000 in
theorem in0_5 : u_ws "MissionDesk$HeldLocks" T_5 2 = [132, 134].filterMap (fun i => lw_tbl[i]?) := by decide +kernel
theorem in1_5 : (u_ws "MissionDesk$HeldLocks" T_5 2).all goodWord = true := by decide +kernel
theorem in_5 : ∀ w ∈ u_ws "MissionDesk$HeldLocks" T_5 2, w ∈ jT := fun w hw => by
  have hg := List.all_eq_true.mp in1_5 w hw
  rw [in0_5] at hw
  obtain ⟨i, -, hi⟩ := List.mem_filterMap.mp hw
  exact jm i hi hg
def T_6 : u_T := fun k => match k with
  | 0 => ("MissionDesk$Turns", "frames", "[LMissionDesk$Frame;", true)
  | 1 => ("MissionDesk$Turns", "next", "I", false)
  | 2 => ("MissionDesk$Turns", "dueAt", "I", false)
  | 3 => ("MissionDesk$Turns", "latest", "I", false)
  | _ => ("MissionDesk$Turns", "begun", "I", false)
def ty_6 : Nat → FieldType := fun k => match k with
  | 0 => .array (.object "MissionDesk$Frame")
  | 1 => .int
  | 2 => .int
  | 3 => .int
  | _ => .int
set_option maxRecDepth 20000 in
theorem nm_6 : ∀ a, a < 5 → ∀ b, b < 5 → a ≠ b → (T_6 a).2.1 ≠ (T_6 b).2.1 := by decide +kernel
theorem ty_6_ok : ∀ k, k < 5 → parseFieldDescriptor (T_6 k).2.2.1 = some (ty_6 k) := by decide +kernel
set_option maxRecDepth 20000 in
theorem in0_6 : u_ws "MissionDesk$Turns" T_6 5 = [276, 278, 280, 282, 284].filterMap (fun i => lw_tbl[i]?) := by decide +kernel
theorem in1_6 : (u_ws "MissionDesk$Turns" T_6 5).all goodWord = true := by decide +kernel
theorem in_6 : ∀ w ∈ u_ws "MissionDesk$Turns" T_6 5, w ∈ jT := fun w hw => by
  have hg := List.all_eq_true.mp in1_6 w hw
  rw [in0_6] at hw
  obtain ⟨i, -, hi⟩ := List.mem_filterMap.mp hw
  exact jm i hi hg
def T_7 : u_T := fun k => match k with
  | 0 => ("MissionDesk$Frame", "ticks", "I", false)
  | 1 => ("MissionDesk$Frame", "taken", "I", false)
  | _ => ("MissionDesk$Frame", "places", "[I", true)
def ty_7 : Nat → FieldType := fun k => match k with
  | 0 => .int
  | 1 => .int
  | _ => .array .int
set_option maxRecDepth 20000 in
theorem nm_7 : ∀ a, a < 3 → ∀ b, b < 3 → a ≠ b → (T_7 a).2.1 ≠ (T_7 b).2.1 := by decide +kernel
theorem ty_7_ok : ∀ k, k < 3 → parseFieldDescriptor (T_7 k).2.2.1 = some (ty_7 k) := by decide +kernel
set_option maxRecDepth 20000 in
theorem in0_7 : u_ws "MissionDesk$Frame" T_7 3 = [259, 261, 263].filterMap (fun i => lw_tbl[i]?) := by decide +kernel
theorem in1_7 : (u_ws "MissionDesk$Frame" T_7 3).all goodWord = true := by decide +kernel
theorem in_7 : ∀ w ∈ u_ws "MissionDesk$Frame" T_7 3, w ∈ jT := fun w hw => by
  have hg := List.all_eq_true.mp in1_7 w hw
  rw [in0_7] at hw
  obtain ⟨i, -, hi⟩ := List.mem_filterMap.mp hw
  exact jm i hi hg
def T_8 : u_T := fun k => match k with
  | 0 => ("MissionDesk$MissionArea", "room", "I", false)
  | _ => ("MissionDesk$MissionArea", "objects", "I", false)
def ty_8 : Nat → FieldType := fun k => match k with
  | 0 => .int
  | _ => .int
set_option maxRecDepth 20000 in
theorem nm_8 : ∀ a, a < 2 → ∀ b, b < 2 → a ≠ b → (T_8 a).2.1 ≠ (T_8 b).2.1 := by decide +kernel
theorem ty_8_ok : ∀ k, k < 2 → parseFieldDescriptor (T_8 k).2.2.1 = some (ty_8 k) := by decide +kernel
set_option maxRecDepth 20000 in
theorem in0_8 : u_ws "MissionDesk$MissionArea" T_8 2 = [297, 299].filterMap (fun i => lw_tbl[i]?) := by decide +kernel
theorem in1_8 : (u_ws "MissionDesk$MissionArea" T_8 2).all goodWord = true := by decide +kernel
theorem in_8 : ∀ w ∈ u_ws "MissionDesk$MissionArea" T_8 2, w ∈ jT := fun w hw => by
  have hg := List.all_eq_true.mp in1_8 w hw
  rw [in0_8] at hw
  obtain ⟨i, -, hi⟩ := List.mem_filterMap.mp hw
  exact jm i hi hg
def T_9 : u_T := fun k => match k with
  | 0 => ("MissionDesk$Journal", "ring", "[I", true)
  | _ => ("MissionDesk$Journal", "noted", "I", false)
def ty_9 : Nat → FieldType := fun k => match k with
  | 0 => .array .int
  | _ => .int
set_option maxRecDepth 20000 in
theorem nm_9 : ∀ a, a < 2 → ∀ b, b < 2 → a ≠ b → (T_9 a).2.1 ≠ (T_9 b).2.1 := by decide +kernel
theorem ty_9_ok : ∀ k, k < 2 → parseFieldDescriptor (T_9 k).2.2.1 = some (ty_9 k) := by decide +kernel
set_option maxRecDepth 20000 in
theorem in0_9 : u_ws "MissionDesk$Journal" T_9 2 = [310, 312].filterMap (fun i => lw_tbl[i]?) := by decide +kernel
theorem in1_9 : (u_ws "MissionDesk$Journal" T_9 2).all goodWord = true := by decide +kernel
theorem in_9 : ∀ w ∈ u_ws "MissionDesk$Journal" T_9 2, w ∈ jT := fun w hw => by
  have hg := List.all_eq_true.mp in1_9 w hw
  rw [in0_9] at hw
  obtain ⟨i, -, hi⟩ := List.mem_filterMap.mp hw
  exact jm i hi hg
def T_10 : u_T := fun k => match k with
  | 0 => ("MissionDeskModel", "there", "[Z", true)
  | 1 => ("MissionDeskModel", "kind", "[I", true)
  | 2 => ("MissionDeskModel", "priority", "[I", true)
  | 3 => ("MissionDeskModel", "first", "[I", true)
  | 4 => ("MissionDeskModel", "every", "[I", true)
  | 5 => ("MissionDeskModel", "deadline", "[I", true)
  | 6 => ("MissionDeskModel", "miss", "[I", true)
  | 7 => ("MissionDeskModel", "budget", "[I", true)
  | 8 => ("MissionDeskModel", "steps", "[I", true)
  | 9 => ("MissionDeskModel", "op", "[I", true)
  | 10 => ("MissionDeskModel", "arg", "[I", true)
  | 11 => ("MissionDeskModel", "ceilings", "[I", true)
  | 12 => ("MissionDeskModel", "ticks", "[I", true)
  | 13 => ("MissionDeskModel", "taken", "[I", true)
  | 14 => ("MissionDeskModel", "placed", "[I", true)
  | 15 => ("MissionDeskModel", "rows", "[I", true)
  | 16 => ("MissionDeskModel", "order", "[I", true)
  | 17 => ("MissionDeskModel", "came", "[I", true)
  | 18 => ("MissionDeskModel", "arrivals", "I", false)
  | 19 => ("MissionDeskModel", "begun", "[Z", true)
  | 20 => ("MissionDeskModel", "next", "[I", true)
  | 21 => ("MissionDeskModel", "spent", "[I", true)
  | 22 => ("MissionDeskModel", "depth", "[I", true)
  | 23 => ("MissionDeskModel", "room", "[I", true)
  | 24 => ("MissionDeskModel", "took", "[I", true)
  | 25 => ("MissionDeskModel", "made", "[I", true)
  | 26 => ("MissionDeskModel", "objectDepth", "[I", true)
  | 27 => ("MissionDeskModel", "objectSize", "[I", true)
  | 28 => ("MissionDeskModel", "locks", "[I", true)
  | 29 => ("MissionDeskModel", "lock", "[I", true)
  | 30 => ("MissionDeskModel", "mode", "I", false)
  | 31 => ("MissionDeskModel", "time", "I", false)
  | 32 => ("MissionDeskModel", "missions", "I", false)
  | 33 => ("MissionDeskModel", "level", "I", false)
  | 34 => ("MissionDeskModel", "began", "I", false)
  | 35 => ("MissionDeskModel", "missionRoom", "I", false)
  | 36 => ("MissionDeskModel", "missionObjects", "I", false)
  | 37 => ("MissionDeskModel", "points", "I", false)
  | 38 => ("MissionDeskModel", "objects", "I", false)
  | 39 => ("MissionDeskModel", "frame", "I", false)
  | 40 => ("MissionDeskModel", "frames", "I", false)
  | 41 => ("MissionDeskModel", "due", "I", false)
  | 42 => ("MissionDeskModel", "overruns", "I", false)
  | 43 => ("MissionDeskModel", "ended", "I", false)
  | 44 => ("MissionDeskModel", "idle", "I", false)
  | 45 => ("MissionDeskModel", "counted", "[I", true)
  | 46 => ("MissionDeskModel", "events", "[I", true)
  | _ => ("MissionDeskModel", "eventMany", "I", false)
def ty_10 : Nat → FieldType := fun k => match k with
  | 0 => .array .boolean
  | 1 => .array .int
  | 2 => .array .int
  | 3 => .array .int
  | 4 => .array .int
  | 5 => .array .int
  | 6 => .array .int
  | 7 => .array .int
  | 8 => .array .int
  | 9 => .array .int
  | 10 => .array .int
  | 11 => .array .int
  | 12 => .array .int
  | 13 => .array .int
  | 14 => .array .int
  | 15 => .array .int
  | 16 => .array .int
  | 17 => .array .int
  | 18 => .int
  | 19 => .array .boolean
  | 20 => .array .int
  | 21 => .array .int
  | 22 => .array .int
  | 23 => .array .int
  | 24 => .array .int
  | 25 => .array .int
  | 26 => .array .int
  | 27 => .array .int
  | 28 => .array .int
  | 29 => .array .int
  | 30 => .int
  | 31 => .int
  | 32 => .int
  | 33 => .int
  | 34 => .int
  | 35 => .int
  | 36 => .int
  | 37 => .int
  | 38 => .int
  | 39 => .int
  | 40 => .int
  | 41 => .int
  | 42 => .int
  | 43 => .int
  | 44 => .int
  | 45 => .array .int
  | 46 => .array .int
  | _ => .int
set_option maxRecDepth 20000 in
theorem nm_10 : ∀ a, a < 48 → ∀ b, b < 48 → a ≠ b → (T_10 a).2.1 ≠ (T_10 b).2.1 := by decide +kernel
theorem ty_10_ok : ∀ k, k < 48 → parseFieldDescriptor (T_10 k).2.2.1 = some (ty_10 k) := by decide +kernel
set_option maxRecDepth 20000 in
theorem in0_10 : u_ws "MissionDeskModel" T_10 48 = [745, 747, 749, 751, 753, 755, 757, 759, 761, 763, 765, 767, 769, 771, 773, 775, 777, 779, 781, 783, 785, 787, 789, 791, 793, 795, 797, 799, 801, 803, 805, 807, 809, 811, 813, 815, 817, 819, 821, 823, 825, 827, 829, 831, 833, 835, 837, 839].filterMap (fun i => lw_tbl[i]?) := by decide +kernel
theorem in1_10 : (u_ws "MissionDeskModel" T_10 48).all goodWord = true := by decide +kernel
theorem in_10 : ∀ w ∈ u_ws "MissionDeskModel" T_10 48, w ∈ jT := fun w hw => by
  have hg := List.all_eq_true.mp in1_10 w hw
  rw [in0_10] at hw
  obtain ⟨i, -, hi⟩ := List.mem_filterMap.mp hw
  exact jm i hi hg
abbrev vwCl : List vw_C := [("MissionDesk", T_0, 16), ("MissionDesk$Handler", T_1, 14), ("MissionDesk$Line", T_2, 3), ("MissionDesk$Release", T_3, 8), ("MissionDesk$Scopes", T_4, 6), ("MissionDesk$HeldLocks", T_5, 2), ("MissionDesk$Turns", T_6, 5), ("MissionDesk$Frame", T_7, 3), ("MissionDesk$MissionArea", T_8, 2), ("MissionDesk$Journal", T_9, 2), ("MissionDeskModel", T_10, 48)]
abbrev k_tys (ca : Nat → ClassId) : List (ClassId × FieldType) := [(ca 0, .int), (ca 1, .boolean), (ca 2, .object "MissionDesk$Handler"), (ca 3, .object "MissionDesk$Release"), (ca 4, .object "MissionDesk$Frame")]

section
-- ===== PART A: goes FIRST, ahead of the names: the tables' words, and 'selects' of the private methods out of them =====
/-- a private method of a class that the tables say can be made, by its rows of tables_1 -/
def lw_okq (q : MethodName × Nat) : Prop := (q.1.cls ≠ "java/lang/invoke/MethodHandle" ∧ q.1.cls ≠ "java/lang/invoke/VarHandle") ∧ Cond.instantiable q.1.cls q.2 ∈ tables_1 ∧ Cond.privateMethod q.1 ∈ tables_1 ∧ Cond.instanceMethod q.1 ∈ tables_1
theorem lw_p0 : lw_okq (⟨"TrainLoads$Planner", "clearLoads", "()V"⟩, 9) := ⟨⟨by decide +kernel, by decide +kernel⟩, List.mem_of_getElem? (i := 169) (by decide +kernel), List.mem_of_getElem? (i := 275) (by decide +kernel), List.mem_of_getElem? (i := 276) (by decide +kernel)⟩
theorem lw_p1 : lw_okq (⟨"TrainLoads$Planner", "weighBoxes", "()V"⟩, 9) := ⟨⟨by decide +kernel, by decide +kernel⟩, List.mem_of_getElem? (i := 169) (by decide +kernel), List.mem_of_getElem? (i := 286) (by decide +kernel), List.mem_of_getElem? (i := 287) (by decide +kernel)⟩
theorem lw_p2 : lw_okq (⟨"TrainLoads$Planner", "someWagonTakes", "(I)Z"⟩, 9) := ⟨⟨by decide +kernel, by decide +kernel⟩, List.mem_of_getElem? (i := 169) (by decide +kernel), List.mem_of_getElem? (i := 297) (by decide +kernel), List.mem_of_getElem? (i := 298) (by decide +kernel)⟩
theorem lw_p3 : lw_okq (⟨"TrainLoads$Planner", "mayPutOn", "(II)Z"⟩, 9) := ⟨⟨by decide +kernel, by decide +kernel⟩, List.mem_of_getElem? (i := 169) (by decide +kernel), List.mem_of_getElem? (i := 301) (by decide +kernel), List.mem_of_getElem? (i := 302) (by decide +kernel)⟩
theorem lw_p4 : lw_okq (⟨"TrainLoads$Planner", "rulesAllow", "(II)Z"⟩, 9) := ⟨⟨by decide +kernel, by decide +kernel⟩, List.mem_of_getElem? (i := 169) (by decide +kernel), List.mem_of_getElem? (i := 313) (by decide +kernel), List.mem_of_getElem? (i := 314) (by decide +kernel)⟩
theorem lw_p5 : lw_okq (⟨"TrainLoads$Planner", "isBarred", "(ILTrainLoads$Load;I)Z"⟩, 9) := ⟨⟨by decide +kernel, by decide +kernel⟩, List.mem_of_getElem? (i := 169) (by decide +kernel), List.mem_of_getElem? (i := 318) (by decide +kernel), List.mem_of_getElem? (i := 319) (by decide +kernel)⟩
theorem lw_p6 : lw_okq (⟨"TrainLoads$Planner", "tryFrom", "(I)V"⟩, 9) := ⟨⟨by decide +kernel, by decide +kernel⟩, List.mem_of_getElem? (i := 169) (by decide +kernel), List.mem_of_getElem? (i := 323) (by decide +kernel), List.mem_of_getElem? (i := 324) (by decide +kernel)⟩
theorem lw_p7 : lw_okq (⟨"TrainLoads$Planner", "tryOn", "(II)V"⟩, 9) := ⟨⟨by decide +kernel, by decide +kernel⟩, List.mem_of_getElem? (i := 169) (by decide +kernel), List.mem_of_getElem? (i := 330) (by decide +kernel), List.mem_of_getElem? (i := 331) (by decide +kernel)⟩
theorem lw_p8 : lw_okq (⟨"TrainLoads$Load", "change", "(LTrainLoads$Box;I)V"⟩, 5) := ⟨⟨by decide +kernel, by decide +kernel⟩, List.mem_of_getElem? (i := 176) (by decide +kernel), List.mem_of_getElem? (i := 338) (by decide +kernel), List.mem_of_getElem? (i := 339) (by decide +kernel)⟩
theorem lw_p9 : lw_okq (⟨"TrainLoads$Planner", "putBestOn", "()V"⟩, 9) := ⟨⟨by decide +kernel, by decide +kernel⟩, List.mem_of_getElem? (i := 169) (by decide +kernel), List.mem_of_getElem? (i := 347) (by decide +kernel), List.mem_of_getElem? (i := 348) (by decide +kernel)⟩
theorem lw_p10 : lw_okq (⟨"TrainLoads", "patternsOf", "(I)I"⟩, 3) := ⟨⟨by decide +kernel, by decide +kernel⟩, List.mem_of_getElem? (i := 21) (by decide +kernel), List.mem_of_getElem? (i := 363) (by decide +kernel), List.mem_of_getElem? (i := 364) (by decide +kernel)⟩
theorem lw_p11 : lw_okq (⟨"java/lang/Throwable", "fillInStackTrace", "(I)Ljava/lang/Throwable;"⟩, 6) := ⟨⟨by decide +kernel, by decide +kernel⟩, List.mem_of_getElem? (i := 420) (by decide +kernel), List.mem_of_getElem? (i := 418) (by decide +kernel), List.mem_of_getElem? (i := 419) (by decide +kernel)⟩
theorem lw_p12 : lw_okq (⟨"TrainLoads", "needPlan", "()V"⟩, 3) := ⟨⟨by decide +kernel, by decide +kernel⟩, List.mem_of_getElem? (i := 21) (by decide +kernel), List.mem_of_getElem? (i := 539) (by decide +kernel), List.mem_of_getElem? (i := 540) (by decide +kernel)⟩
theorem lw_p13 : lw_okq (⟨"TrainLoadsModel", "isWagon", "(I)Z"⟩, 21) := ⟨⟨by decide +kernel, by decide +kernel⟩, List.mem_of_getElem? (i := 653) (by decide +kernel), List.mem_of_getElem? (i := 745) (by decide +kernel), List.mem_of_getElem? (i := 746) (by decide +kernel)⟩
theorem lw_p14 : lw_okq (⟨"TrainLoadsModel", "used", "()I"⟩, 21) := ⟨⟨by decide +kernel, by decide +kernel⟩, List.mem_of_getElem? (i := 653) (by decide +kernel), List.mem_of_getElem? (i := 775) (by decide +kernel), List.mem_of_getElem? (i := 776) (by decide +kernel)⟩
theorem lw_p15 : lw_okq (⟨"TrainLoadsModel", "isAhead", "()Z"⟩, 21) := ⟨⟨by decide +kernel, by decide +kernel⟩, List.mem_of_getElem? (i := 653) (by decide +kernel), List.mem_of_getElem? (i := 779) (by decide +kernel), List.mem_of_getElem? (i := 780) (by decide +kernel)⟩
def lw_privs_1 : List (MethodName × Nat) := [(⟨"TrainLoads$Planner", "clearLoads", "()V"⟩, 9), (⟨"TrainLoads$Planner", "weighBoxes", "()V"⟩, 9), (⟨"TrainLoads$Planner", "someWagonTakes", "(I)Z"⟩, 9), (⟨"TrainLoads$Planner", "mayPutOn", "(II)Z"⟩, 9), (⟨"TrainLoads$Planner", "rulesAllow", "(II)Z"⟩, 9), (⟨"TrainLoads$Planner", "isBarred", "(ILTrainLoads$Load;I)Z"⟩, 9), (⟨"TrainLoads$Planner", "tryFrom", "(I)V"⟩, 9), (⟨"TrainLoads$Planner", "tryOn", "(II)V"⟩, 9), (⟨"TrainLoads$Load", "change", "(LTrainLoads$Box;I)V"⟩, 5), (⟨"TrainLoads$Planner", "putBestOn", "()V"⟩, 9), (⟨"TrainLoads", "patternsOf", "(I)I"⟩, 3), (⟨"java/lang/Throwable", "fillInStackTrace", "(I)Ljava/lang/Throwable;"⟩, 6), (⟨"TrainLoads", "needPlan", "()V"⟩, 3), (⟨"TrainLoadsModel", "isWagon", "(I)Z"⟩, 21), (⟨"TrainLoadsModel", "used", "()I"⟩, 21), (⟨"TrainLoadsModel", "isAhead", "()Z"⟩, 21)]
theorem lw_r1 : ∀ q ∈ lw_privs_1, lw_okq q := List.forall_mem_cons.mpr ⟨lw_p0, List.forall_mem_cons.mpr ⟨lw_p1, List.forall_mem_cons.mpr ⟨lw_p2, List.forall_mem_cons.mpr ⟨lw_p3, List.forall_mem_cons.mpr ⟨lw_p4, List.forall_mem_cons.mpr ⟨lw_p5, List.forall_mem_cons.mpr ⟨lw_p6, List.forall_mem_cons.mpr ⟨lw_p7, List.forall_mem_cons.mpr ⟨lw_p8, List.forall_mem_cons.mpr ⟨lw_p9, List.forall_mem_cons.mpr ⟨lw_p10, List.forall_mem_cons.mpr ⟨lw_p11, List.forall_mem_cons.mpr ⟨lw_p12, List.forall_mem_cons.mpr ⟨lw_p13, List.forall_mem_cons.mpr ⟨lw_p14, List.forall_mem_cons.mpr ⟨lw_p15, fun _ h => absurd h List.not_mem_nil⟩⟩⟩⟩⟩⟩⟩⟩⟩⟩⟩⟩⟩⟩⟩⟩
theorem lw_p16 : lw_okq (⟨"TrainLoadsModel", "boxAt", "(I)I"⟩, 21) := ⟨⟨by decide +kernel, by decide +kernel⟩, List.mem_of_getElem? (i := 653) (by decide +kernel), List.mem_of_getElem? (i := 783) (by decide +kernel), List.mem_of_getElem? (i := 784) (by decide +kernel)⟩
theorem lw_p17 : lw_okq (⟨"TrainLoadsModel", "placeOf", "(I)I"⟩, 21) := ⟨⟨by decide +kernel, by decide +kernel⟩, List.mem_of_getElem? (i := 653) (by decide +kernel), List.mem_of_getElem? (i := 787) (by decide +kernel), List.mem_of_getElem? (i := 788) (by decide +kernel)⟩
theorem lw_p18 : lw_okq (⟨"TrainLoadsModel", "mayBe", "()Z"⟩, 21) := ⟨⟨by decide +kernel, by decide +kernel⟩, List.mem_of_getElem? (i := 653) (by decide +kernel), List.mem_of_getElem? (i := 791) (by decide +kernel), List.mem_of_getElem? (i := 792) (by decide +kernel)⟩
theorem lw_p19 : lw_okq (⟨"TrainLoadsModel", "rulesOf", "(II)I"⟩, 21) := ⟨⟨by decide +kernel, by decide +kernel⟩, List.mem_of_getElem? (i := 653) (by decide +kernel), List.mem_of_getElem? (i := 795) (by decide +kernel), List.mem_of_getElem? (i := 796) (by decide +kernel)⟩
theorem lw_p20 : lw_okq (⟨"TrainLoadsModel", "isGood", "(I)Z"⟩, 21) := ⟨⟨by decide +kernel, by decide +kernel⟩, List.mem_of_getElem? (i := 653) (by decide +kernel), List.mem_of_getElem? (i := 799) (by decide +kernel), List.mem_of_getElem? (i := 800) (by decide +kernel)⟩
theorem lw_p21 : lw_okq (⟨"TrainLoadsModel", "countOf", "([III)I"⟩, 21) := ⟨⟨by decide +kernel, by decide +kernel⟩, List.mem_of_getElem? (i := 653) (by decide +kernel), List.mem_of_getElem? (i := 803) (by decide +kernel), List.mem_of_getElem? (i := 804) (by decide +kernel)⟩
theorem lw_p22 : lw_okq (⟨"TrainLoadsModel", "patternFor", "(IIII)I"⟩, 21) := ⟨⟨by decide +kernel, by decide +kernel⟩, List.mem_of_getElem? (i := 653) (by decide +kernel), List.mem_of_getElem? (i := 807) (by decide +kernel), List.mem_of_getElem? (i := 808) (by decide +kernel)⟩
theorem lw_p23 : lw_okq (⟨"TrainLoadsModel", "isBox", "(I)Z"⟩, 21) := ⟨⟨by decide +kernel, by decide +kernel⟩, List.mem_of_getElem? (i := 653) (by decide +kernel), List.mem_of_getElem? (i := 818) (by decide +kernel), List.mem_of_getElem? (i := 819) (by decide +kernel)⟩
theorem lw_p24 : lw_okq (⟨"TrainLoadsModel", "placeIn", "(I)I"⟩, 21) := ⟨⟨by decide +kernel, by decide +kernel⟩, List.mem_of_getElem? (i := 653) (by decide +kernel), List.mem_of_getElem? (i := 822) (by decide +kernel), List.mem_of_getElem? (i := 823) (by decide +kernel)⟩
theorem lw_p25 : lw_okq (⟨"TrainLoadsModel", "patternOf", "(I)I"⟩, 21) := ⟨⟨by decide +kernel, by decide +kernel⟩, List.mem_of_getElem? (i := 653) (by decide +kernel), List.mem_of_getElem? (i := 826) (by decide +kernel), List.mem_of_getElem? (i := 827) (by decide +kernel)⟩
theorem lw_p26 : lw_okq (⟨"TrainLoadsModel", "weightOn", "(I)J"⟩, 21) := ⟨⟨by decide +kernel, by decide +kernel⟩, List.mem_of_getElem? (i := 653) (by decide +kernel), List.mem_of_getElem? (i := 834) (by decide +kernel), List.mem_of_getElem? (i := 835) (by decide +kernel)⟩
def lw_privs_2 : List (MethodName × Nat) := [(⟨"TrainLoadsModel", "boxAt", "(I)I"⟩, 21), (⟨"TrainLoadsModel", "placeOf", "(I)I"⟩, 21), (⟨"TrainLoadsModel", "mayBe", "()Z"⟩, 21), (⟨"TrainLoadsModel", "rulesOf", "(II)I"⟩, 21), (⟨"TrainLoadsModel", "isGood", "(I)Z"⟩, 21), (⟨"TrainLoadsModel", "countOf", "([III)I"⟩, 21), (⟨"TrainLoadsModel", "patternFor", "(IIII)I"⟩, 21), (⟨"TrainLoadsModel", "isBox", "(I)Z"⟩, 21), (⟨"TrainLoadsModel", "placeIn", "(I)I"⟩, 21), (⟨"TrainLoadsModel", "patternOf", "(I)I"⟩, 21), (⟨"TrainLoadsModel", "weightOn", "(I)J"⟩, 21)]
theorem lw_r2 : ∀ q ∈ lw_privs_2, lw_okq q := List.forall_mem_cons.mpr ⟨lw_p16, List.forall_mem_cons.mpr ⟨lw_p17, List.forall_mem_cons.mpr ⟨lw_p18, List.forall_mem_cons.mpr ⟨lw_p19, List.forall_mem_cons.mpr ⟨lw_p20, List.forall_mem_cons.mpr ⟨lw_p21, List.forall_mem_cons.mpr ⟨lw_p22, List.forall_mem_cons.mpr ⟨lw_p23, List.forall_mem_cons.mpr ⟨lw_p24, List.forall_mem_cons.mpr ⟨lw_p25, List.forall_mem_cons.mpr ⟨lw_p26, fun _ h => absurd h List.not_mem_nil⟩⟩⟩⟩⟩⟩⟩⟩⟩⟩⟩
def lw_privs : List (MethodName × Nat) := lw_privs_1 ++ (lw_privs_2)
def lw_tbl : List Cond := k2_sels lw_privs ++ tables_1
theorem lw_privs_ok : ∀ q ∈ lw_privs, lw_okq q := by
  show ∀ q ∈ lw_privs_1 ++ (lw_privs_2), lw_okq q
  exact List.forall_mem_append.mpr ⟨lw_r1, lw_r2⟩
end
section
/-! NAMES: classes, their fields, methods as records. Printed by wip/names.py. -/
def kt0 : u_T := fun k => match k with
  | 0 => ("TrainLoads$Box", "size", "I", false)
  | 1 => ("TrainLoads$Box", "weight", "J", false)
  | 2 => ("TrainLoads$Box", "height", "I", false)
  | 3 => ("TrainLoads$Box", "danger", "I", false)
  | _ => ("TrainLoads$Box", "booked", "J", false)
def ky0 : Nat → FieldType := fun k => match k with
  | 0 => .int
  | 1 => .long
  | 2 => .int
  | 3 => .int
  | _ => .long
def kt1 : u_T := fun k => match k with
  | 0 => ("TrainLoads$Load", "boxesOfSize", "[I", true)
  | 1 => ("TrainLoads$Load", "boxesOfDanger", "[I", true)
  | 2 => ("TrainLoads$Load", "boxCount", "I", false)
  | 3 => ("TrainLoads$Load", "length", "I", false)
  | _ => ("TrainLoads$Load", "weight", "J", false)
def ky1 : Nat → FieldType := fun k => match k with
  | 0 => (.array .int)
  | 1 => (.array .int)
  | 2 => .int
  | 3 => .int
  | _ => .long
def kt2 : u_T := fun k => match k with
  | 0 => ("TrainLoads$Pattern", "sizeOfPlace", "[I", true)
  | 1 => ("TrainLoads$Pattern", "placesOfSize", "[I", true)
  | _ => ("TrainLoads$Pattern", "placeCount", "I", false)
def ky2 : Nat → FieldType := fun k => match k with
  | 0 => (.array .int)
  | 1 => (.array .int)
  | _ => .int
def kt3 : u_T := fun k => match k with
  | 0 => ("TrainLoads$Planner", "train", "LTrainLoads$Train;", true)
  | 1 => ("TrainLoads$Planner", "loads", "[LTrainLoads$Load;", true)
  | 2 => ("TrainLoads$Planner", "boxOfRank", "[I", true)
  | 3 => ("TrainLoads$Planner", "worth", "[I", true)
  | 4 => ("TrainLoads$Planner", "worthFrom", "[I", true)
  | 5 => ("TrainLoads$Planner", "tried", "[I", true)
  | 6 => ("TrainLoads$Planner", "best", "[I", true)
  | 7 => ("TrainLoads$Planner", "triedWorth", "I", false)
  | _ => ("TrainLoads$Planner", "bestWorth", "I", false)
def ky3 : Nat → FieldType := fun k => match k with
  | 0 => (.object "TrainLoads$Train")
  | 1 => (.array (.object "TrainLoads$Load"))
  | 2 => (.array .int)
  | 3 => (.array .int)
  | 4 => (.array .int)
  | 5 => (.array .int)
  | 6 => (.array .int)
  | 7 => .int
  | _ => .int
def kt4 : u_T := fun k => match k with
  | 0 => ("TrainLoads$Train", "wagons", "[LTrainLoads$Wagon;", true)
  | 1 => ("TrainLoads$Train", "wagonCount", "I", false)
  | 2 => ("TrainLoads$Train", "boxes", "[LTrainLoads$Box;", true)
  | 3 => ("TrainLoads$Train", "boxCount", "I", false)
  | 4 => ("TrainLoads$Train", "rules", "[[I", true)
  | _ => ("TrainLoads$Train", "cutOff", "J", false)
def ky4 : Nat → FieldType := fun k => match k with
  | 0 => (.array (.object "TrainLoads$Wagon"))
  | 1 => .int
  | 2 => (.array (.object "TrainLoads$Box"))
  | 3 => .int
  | 4 => (.array (.array .int))
  | _ => .long
def kt5 : u_T := fun k => match k with
  | 0 => ("TrainLoads$Wagon", "patterns", "[LTrainLoads$Pattern;", true)
  | 1 => ("TrainLoads$Wagon", "patternCount", "I", false)
  | 2 => ("TrainLoads$Wagon", "length", "I", false)
  | 3 => ("TrainLoads$Wagon", "mostWeight", "J", false)
  | 4 => ("TrainLoads$Wagon", "axles", "I", false)
  | 5 => ("TrainLoads$Wagon", "gauge", "I", false)
  | _ => ("TrainLoads$Wagon", "isOut", "Z", false)
def ky5 : Nat → FieldType := fun k => match k with
  | 0 => (.array (.object "TrainLoads$Pattern"))
  | 1 => .int
  | 2 => .int
  | 3 => .long
  | 4 => .int
  | 5 => .int
  | _ => .boolean
def kt6 : u_T := fun k => match k with
  | 0 => ("TrainLoads", "train", "LTrainLoads$Train;", true)
  | 1 => ("TrainLoads", "planner", "LTrainLoads$Planner;", true)
  | _ => ("TrainLoads", "planned", "Z", false)
def ky6 : Nat → FieldType := fun k => match k with
  | 0 => (.object "TrainLoads$Train")
  | 1 => (.object "TrainLoads$Planner")
  | _ => .boolean
def kt7 : u_T := fun k => match k with
  | 0 => ("TrainLoadsModel", "thrown", "I", false)
  | 1 => ("TrainLoadsModel", "wagons", "I", false)
  | 2 => ("TrainLoadsModel", "boxes", "I", false)
  | 3 => ("TrainLoadsModel", "length", "[I", true)
  | 4 => ("TrainLoadsModel", "most", "[J", true)
  | 5 => ("TrainLoadsModel", "axles", "[I", true)
  | 6 => ("TrainLoadsModel", "gauge", "[I", true)
  | 7 => ("TrainLoadsModel", "isOut", "[Z", true)
  | 8 => ("TrainLoadsModel", "patterns", "[I", true)
  | 9 => ("TrainLoadsModel", "sizesOf", "[I", true)
  | 10 => ("TrainLoadsModel", "size", "[I", true)
  | 11 => ("TrainLoadsModel", "weight", "[J", true)
  | 12 => ("TrainLoadsModel", "height", "[I", true)
  | 13 => ("TrainLoadsModel", "danger", "[I", true)
  | 14 => ("TrainLoadsModel", "booked", "[J", true)
  | 15 => ("TrainLoadsModel", "ruleOf", "[I", true)
  | 16 => ("TrainLoadsModel", "cutOff", "J", false)
  | 17 => ("TrainLoadsModel", "isPlan", "Z", false)
  | 18 => ("TrainLoadsModel", "tried", "[I", true)
  | 19 => ("TrainLoadsModel", "best", "[I", true)
  | _ => ("TrainLoadsModel", "bestLength", "I", false)
def ky7 : Nat → FieldType := fun k => match k with
  | 0 => .int
  | 1 => .int
  | 2 => .int
  | 3 => (.array .int)
  | 4 => (.array .long)
  | 5 => (.array .int)
  | 6 => (.array .int)
  | 7 => (.array .boolean)
  | 8 => (.array .int)
  | 9 => (.array .int)
  | 10 => (.array .int)
  | 11 => (.array .long)
  | 12 => (.array .int)
  | 13 => (.array .int)
  | 14 => (.array .long)
  | 15 => (.array .int)
  | 16 => .long
  | 17 => .boolean
  | 18 => (.array .int)
  | 19 => (.array .int)
  | _ => .int
def vwCl : List vw_C := [("TrainLoads$Box", kt0, 5), ("TrainLoads$Load", kt1, 5), ("TrainLoads$Pattern", kt2, 3), ("TrainLoads$Planner", kt3, 9), ("TrainLoads$Train", kt4, 6), ("TrainLoads$Wagon", kt5, 7), ("TrainLoads", kt6, 3), ("TrainLoadsModel", kt7, 21)]
end
section
/-! THE LAYER. The heap as a function of addresses, a method as a record; 'ah_At': from this place, with these locals, this stack and this heap, the method ends so. -/
abbrev ah_C : Type := Nat × List Value
/-- size, slots, cells -/
abbrev ah_H : Type := Nat × Nat × (Nat → Option ah_C)
def ah_sel (h : ah_H) (a t i : Nat) : Option Value := match h.2.2 a with
  | some c => if c.1 = t then c.2[i]? else none
  | none => none
def ah_len (h : ah_H) (a t : Nat) : Option Nat := match h.2.2 a with
  | some c => if c.1 = t then some c.2.length else none
  | none => none
def ah_sto (h : ah_H) (a i : Nat) (v : Value) : ah_H := (h.1, h.2.1, fun q => if q = a then (h.2.2 a).map (fun c => (c.1, c.2.set i v)) else h.2.2 q)
/-- a new exception: six fields -/
def ah_newx (h : ah_H) (t : Nat) : ah_H := (h.1 + 1, h.2.1 + 6, fun q => if q = h.1 then some (t, []) else h.2.2 q)
def ah_new (h : ah_H) (c : ah_C) : ah_H := (h.1 + 1, h.2.1 + c.2.length, fun q => if q = h.1 then some c else h.2.2 q)
/-- a method: its name, its bytes, how many locals, what it returns, its handlers -/
abbrev ah_M : Type := MethodName × ByteArray × Nat × Option FieldType × List (Nat × Nat × Nat × Nat)
def ah_cw (M : ah_M) : Cond := match M.2.2.2.2 with
  | [] => .code M.1 M.2.1 M.2.2.1 M.2.2.2.1
  | x :: r => .codeWith M.1 M.2.1 M.2.2.1 M.2.2.2.1 (x :: r)
/-- words that stay true under warmer tables -/
def ah_wk (w : Cond) : Bool := (w.onTables && w.keeps) || match w with
  | .arrayClass _ => true
  | .fieldLinkNest .. => true
  | .methodLinkNest .. => true
  | .arrayOver (.object _) => true
  | .arrayOver (.array _) => true
  | .declares _ => true
  | .castable .. => true
  | .stringRef .. => true
  | .not (.castable ..) => true
  | _ => false
/-- of the Statement's pairs that can't be cast those that the law's handlers ask for -/
def ah_xt : List Cond := [.not (.castable "java/lang/IllegalStateException" "java/lang/IllegalArgumentException"), .not (.castable "java/util/NoSuchElementException" "java/lang/IndexOutOfBoundsException"), .not (.castable "java/lang/ArithmeticException" "java/lang/IndexOutOfBoundsException"), .not (.castable "java/lang/ArithmeticException" "java/util/NoSuchElementException")]
def ah_W : List Cond := (lw_tbl ++ ah_xt).filter ah_wk
theorem ah_in {w : Cond} (h : w ∈ lw_tbl) (hk : ah_wk w = true) : w ∈ ah_W := List.mem_filter.mpr ⟨List.mem_append_left _ h, hk⟩
theorem ah_inx {w : Cond} (h : w ∈ ah_xt) (hk : ah_wk w = true) : w ∈ ah_W := List.mem_filter.mpr ⟨List.mem_append_right _ h, hk⟩
theorem ah_wk_or {w : Cond} (h : ah_wk w = true) : ((w.onTables && w.keeps) = true ∨ ∃ ty, w = .arrayClass ty) ∨ (∃ a i b n d x, w = .fieldLinkNest a i b n d x) ∨ (∃ a i x y, w = .methodLinkNest a i x y) ∨ (∃ C, w = .arrayOver (.object C)) ∨ (∃ t, w = .arrayOver (.array t)) ∨ (∃ x, w = .declares x) ∨ (∃ a b, w = .castable a b) ∨ (∃ a i t, w = .stringRef a i t) ∨ ∃ a b, w = .not (.castable a b) := by
  unfold ah_wk at h
  rw [Bool.or_eq_true] at h
  rcases h with h | h
  · exact Or.inl (Or.inl h)
  · split at h
    · exact Or.inl (Or.inr ⟨_, rfl⟩)
    · exact Or.inr (Or.inl ⟨_, _, _, _, _, _, rfl⟩)
    · exact Or.inr (Or.inr (Or.inl ⟨_, _, _, _, rfl⟩))
    · exact Or.inr (Or.inr (Or.inr (Or.inl ⟨_, rfl⟩)))
    · exact Or.inr (Or.inr (Or.inr (Or.inr (Or.inl ⟨_, rfl⟩))))
    · exact Or.inr (Or.inr (Or.inr (Or.inr (Or.inr (Or.inl ⟨_, rfl⟩)))))
    · exact Or.inr (Or.inr (Or.inr (Or.inr (Or.inr (Or.inr (Or.inl ⟨_, _, rfl⟩))))))
    · exact Or.inr (Or.inr (Or.inr (Or.inr (Or.inr (Or.inr (Or.inr (Or.inl ⟨_, _, _, rfl⟩)))))))
    · exact Or.inr (Or.inr (Or.inr (Or.inr (Or.inr (Or.inr (Or.inr (Or.inr ⟨_, _, rfl⟩)))))))
    · cases h
theorem ah_AOs {t : FieldType} {A : Array Value} {U : State} (h : (Cond.arrayOver (.array t)).before A U = true) : ∃ comp c k, U.vm.findClass (FieldType.array t).toString = some comp ∧ (U.vm.classes.findIdx? fun (x : Class) => match x.kind with | .array component _ => component == comp | _ => false) = some c ∧ U.vm.classes[c]? = some k ∧ k.kind = .array comp (.array t) ∧ U.vm.findClass ("[" ++ (FieldType.array t).toString) = some c := by
  simp only [Cond.before, Cond.holds, Cond.value, beq_iff_eq] at h
  cases hf : U.vm.findClass (FieldType.array t).toString with
  | none => simp [hf] at h
  | some comp =>
    simp only [hf, Option.bind_some, Option.bind_eq_some_iff, Option.map_eq_some_iff] at h
    obtain ⟨c, hi, k, hk, hb⟩ := h
    obtain ⟨_, hp, -⟩ := Array.findIdx?_eq_some_iff_getElem.mp hi
    rw [(Array.getElem?_eq_some_iff.mp hk).2] at hp
    cases hkind : k.kind with
    | array component ty =>
      rw [hkind] at hb hp
      simp at hb hp
      exact ⟨comp, c, k, rfl, hi, hk, by rw [hkind, hp, hb.1], hb.2⟩
    | _ => rw [hkind] at hb; simp at hb
theorem ah_AOA {t : FieldType} {u U : State} (hvm : u.vm.Alike U.vm) (h : (Cond.arrayOver (.array t)).before #[] u = true) : (Cond.arrayOver (.array t)).before #[] U = true := by
  obtain ⟨comp, c, k, h1, h2, h3, h4, h5⟩ := ah_AOs h
  obtain ⟨k', hk', he⟩ := hvm.2.2 _ _ h3
  have hi : (U.vm.classes.findIdx? fun (x : Class) => match x.kind with | .array component _ => component == comp | _ => false) = some c := by
    refine (va_idx_bare U.vm comp).symm.trans ?_
    first | rw [hvm.bare_eq] | rw [← hvm.bare_eq]
    exact (va_idx_bare u.vm comp).trans h2
  have hkind : k'.kind = .array comp (.array t) := by rw [he]; exact h4
  have f1 : U.vm.findClass (FieldType.array t).toString = some comp := by rw [hvm.findClass]; exact h1
  have f2 : U.vm.findClass ("[" ++ (FieldType.array t).toString) = some c := by rw [hvm.findClass]; exact h5
  unfold Cond.before Cond.holds
  simp only [Cond.value]
  rw [f1, Option.bind_some]
  refine (congrArg (fun o : Option Nat => (o.bind (fun c => (U.vm.classes[c]?).map fun (k : Class) => match k.kind with | .array _ ty => decide (ty = FieldType.array t) && decide (U.vm.findClass ("[" ++ (FieldType.array t).toString) = some c) | _ => false) == some true)) hi).trans ?_
  simp [hk', hkind, f2]
theorem ah_Nw_moved {w : Cond} {s U : State} (hk : ah_wk w = true) (hW : s.WarmedH U.vm) (h : va_Nw w s) : va_Nw w U := by
  rcases ah_wk_or hk with h1 | ⟨a, i, b, n, d, x, rfl⟩ | ⟨a, i, x, y, rfl⟩ | ⟨C, rfl⟩ | ⟨t, rfl⟩ | ⟨x, rfl⟩ | ⟨a, b, rfl⟩ | ⟨a, i, t, rfl⟩ | ⟨a, b, rfl⟩
  · exact word_at hW h1 h
  · exact va_Nw.warmF hW h
  · exact va_Nw.warmM hW h
  · exact va_AO.moved hW.alike h
  · exact ah_AOA hW.alike h
  · exact va_tabs rfl (rfl : (s.setVm U.vm).vm = U.vm) (by rw [Cond.declares_setVm hW.alike]; exact h)
  · exact va_tabs rfl (rfl : (s.setVm U.vm).vm = U.vm) (by rw [Cond.castable_setVm hW.alike]; exact h)
  · have h9 := Cond.stringRef_warmed hW h
    show (Cond.stringRef a i t).before #[] U = true
    simp only [Cond.before, Cond.holds, Cond.value, State.names, State.poolOf?, State.resolvedAt?] at h9 ⊢
    exact h9
  · have h : (Cond.not (.castable a b)).before #[] s = true := h
    show (Cond.not (.castable a b)).before #[] U = true
    simp only [Cond.before, Cond.holds, Cond.value, hW.alike.findClass, hW.alike.assignable] at h ⊢
    exact h
/-- what the tables say -/
def ah_K (D : va_G) (U : State) : Prop := (∀ w ∈ ah_W, va_Nw w U) ∧ ∀ (ci : Nat) (r : vw_C), vwCl[ci]? = some r → u_Kn U r.1 r.2.1 r.2.2 (D.1 ci) (D.2 ci)
theorem ah_K.moved {D : va_G} {s U : State} (h : ah_K D s) (hW : s.WarmedH U.vm) : ah_K D U :=
  ⟨fun w hw => ah_Nw_moved (List.mem_filter.mp hw).2 hW (h.1 w hw), fun ci r hr => u_Kn_moved hW.alike (h.2 ci r hr)⟩
theorem ah_K.w {D : va_G} {s : State} (h : ah_K D s) {w : Cond} (hw : w ∈ ah_W) {args : Array Value} : w.before args s = true := by
  rcases ah_wk_or (List.mem_filter.mp hw).2 with h1 | ⟨a, i, b, n, d, x, rfl⟩ | ⟨a, i, x, y, rfl⟩ | ⟨C, rfl⟩ | ⟨t, rfl⟩ | ⟨x, rfl⟩ | ⟨a, b, rfl⟩ | ⟨a, i, t, rfl⟩ | ⟨a, b, rfl⟩
  · exact word_at (State.WarmedH.refl s) h1 (h.1 _ hw)
  · exact va_Nw.use rfl (h.1 _ hw)
  · exact va_Nw.use rfl (h.1 _ hw)
  · exact va_AO.use (h.1 _ hw)
  · exact (h.1 _ hw : (Cond.arrayOver (.array t)).before #[] s = true)
  · exact va_Nw.use rfl (h.1 _ hw)
  · exact va_Nw.use rfl (h.1 _ hw)
  · have h9 : (Cond.stringRef a i t).before #[] s = true := h.1 _ hw
    simp only [Cond.before, Cond.holds, Cond.value, State.names, State.poolOf?, State.resolvedAt?] at h9 ⊢
    exact h9
  · exact (h.1 _ hw : (Cond.not (.castable a b)).before #[] s = true)
theorem ah_K.k {D : va_G} {s : State} (h : ah_K D s) : va_K D vwCl [] s := ⟨h.2, fun k q hq => by simp at hq⟩
/-- the arrays' marks: 100 int[], 101 long[], 102 int[][], 110 + i an array of objects of class i -/
def ah_ty (t : Nat) : Option FieldType := if t < 100 then none else if t = 100 then some .int else if t = 101 then some .long else if t = 102 then some (.array .int) else if t = 103 then some .boolean else (vwCl[t - 110]?).map fun r => .object r.1
/-- exceptions: 90 .. 94; nobody asks what their fields hold -/
def ah_ex (t : Nat) : Option String := if t = 90 then some "java/lang/IllegalArgumentException" else if t = 91 then some "java/lang/IllegalStateException" else if t = 92 then some "java/lang/IndexOutOfBoundsException" else if t = 93 then some "java/util/NoSuchElementException" else if t = 94 then some "java/lang/ArithmeticException" else none
/-- Throwable's own statics: two that hold a reference, or null -/
def ah_st1 (n d : String) (U : State) (H : Heap) (a : Nat) : Prop := ∃ (cf : ClassId) (kf : Class) (fi : Nat) (f : Field) (cell : Cell) (v : Value), (U.fieldFound? "java/lang/Throwable" n d = some (cf, kf, fi, f) ∧ U.vm.findClass "java/lang/Throwable" = some cf ∧ cell.cls = cf ∧ kf.staticTypes[f.slot]? = some f.type) ∧ f.isStatic = true ∧ kf.statics = some a ∧ H[a]? = some cell ∧ cell.vm.isStatics = true ∧ cell.slots[f.slot]? = some v ∧ v.isRef = true
theorem ah_st1.moved {n d : String} {u U : State} {H : Heap} {a : Nat} (hvm : u.vm.Alike U.vm) (h : ah_st1 n d u H a) : ah_st1 n d U H a := by
  obtain ⟨cf, kf, fi, f, cell, v, ⟨h1, g1, g2, g3⟩, h2, h3, h4⟩ := h
  obtain ⟨k', hi', he⟩ := State.fieldFound?_setVm hvm h1
  exact ⟨cf, k', fi, f, cell, v, ⟨hi', by rw [hvm.findClass]; exact g1, g2, by rw [he]; exact g3⟩, h2, by rw [he]; exact h3, h4⟩
theorem ah_st1.kept {n d : String} {U : State} {H H1 : Heap} {a : Nat} (h : ah_st1 n d U H a) (hq : H1[a]? = H[a]?) : ah_st1 n d U H1 a := by
  obtain ⟨cf, kf, fi, f, cell, v, h1, h2, h3, h4, h5⟩ := h
  exact ⟨cf, kf, fi, f, cell, v, h1, h2, h3, hq.trans h4, h5⟩
theorem ah_st1.ref {n d : String} {U : State} {a : Nat} {args : Array Value} (h : ah_st1 n d U U.heap a) : (Cond.isRef (.static "java/lang/Throwable" n d)).before args U = true := by
  obtain ⟨cf, kf, fi, f, cell, v, ⟨h1, -, -, -⟩, h2, h3, h4, h5, h6, h7⟩ := h
  have e : (Term.static "java/lang/Throwable" n d).eval args U none [] U = some v := by
    simp [Term.eval, State.fieldNamed?, h1, h2, h3, h4, h5, h6]
  simp only [Cond.before, Cond.holds, Cond.value, e]
  cases v <;> simp_all [Value.isRef]
theorem ah_st1.lays {n d : String} {U : State} {a : Nat} {args : Array Value} (h : ah_st1 n d U U.heap a) : (Cond.laysStatic "java/lang/Throwable" n d).before args U = true := by
  obtain ⟨cf, kf, fi, f, cell, v, ⟨h1, g1, g2, g3⟩, h2, h3, h4, h5, h6, h7⟩ := h
  exact Cond.laysStatic_of g1 h1 h2 h3 h4 h5 g2 (Array.getElem?_eq_some_iff.mp h6).1 g3
def ah_st2 (U : State) (H : Heap) (a : Nat) : Prop := ah_st1 "UNASSIGNED_STACK" "[Ljava/lang/StackTraceElement;" U H a ∧ ah_st1 "SUPPRESSED_SENTINEL" "Ljava/util/List;" U H a
def ah_ok (D : va_G) (U : State) (H : Heap) (a : Nat) (c : ah_C) : Prop := match ah_ex c.1 with
  | some E => ∃ cell : Cell, H[a]? = some cell ∧ U.vm.findClass E = some cell.cls ∧ ∀ k, cell.vm ≠ .statics k
  | none => if c.1 = 97 then ah_st2 U H a else if c.1 = 99 then ∃ cell : Cell, H[a]? = some cell ∧ U.isArrayOf cell .int ∧ cell.vm ≠ .unknown ∧ cell.slots.toList = c.2 else match ah_ty c.1 with
    | some ty => ∃ cA : ClassId, H[a]? = some (arrV cA c.2.length (vp_V c.2)) ∧ ArrOfT U cA ty ∧ va_RA U cA ty
    | none => ∃ r : vw_C, vwCl[c.1]? = some r ∧ c.2.length = r.2.2 ∧ t_OB a (D.1 c.1) r.2.2 (D.2 c.1) H (vp_V c.2)
theorem ah_ok_z {D : va_G} {U : State} {H : Heap} {a : Nat} {fs : List Value} : ah_ok D U H a (97, fs) ↔ ah_st2 U H a := by
  unfold ah_ok
  simp only [show ah_ex 97 = none from rfl, if_true]
theorem ah_ty97 : ah_ty 97 = none := rfl
theorem ah_ok_e {D : va_G} {U : State} {H : Heap} {a t : Nat} {fs : List Value} {E : String} (hx : ah_ex t = some E) : ah_ok D U H a (t, fs) ↔ ∃ cell : Cell, H[a]? = some cell ∧ U.vm.findClass E = some cell.cls ∧ ∀ k, cell.vm ≠ .statics k := by
  unfold ah_ok
  simp only [hx]
theorem ah_ok_s {D : va_G} {U : State} {H : Heap} {a : Nat} {fs : List Value} : ah_ok D U H a (99, fs) ↔ ∃ cell : Cell, H[a]? = some cell ∧ U.isArrayOf cell .int ∧ cell.vm ≠ .unknown ∧ cell.slots.toList = fs := by
  unfold ah_ok
  simp only [show ah_ex 99 = none from rfl, show ¬ (99 = 97) from by decide, if_true, if_false]
theorem ah_ok_o {D : va_G} {U : State} {H : Heap} {a t : Nat} {fs : List Value} (hx : ah_ex t = none) (h9 : ¬ t = 97 ∧ ¬ t = 99) (ht : ah_ty t = none) : ah_ok D U H a (t, fs) ↔ ∃ r : vw_C, vwCl[t]? = some r ∧ fs.length = r.2.2 ∧ t_OB a (D.1 t) r.2.2 (D.2 t) H (vp_V fs) := by
  unfold ah_ok
  simp only [hx, ht, if_neg h9.1, if_neg h9.2]
theorem ah_ok_a {D : va_G} {U : State} {H : Heap} {a t : Nat} {fs : List Value} {ty : FieldType} (hx : ah_ex t = none) (h9 : ¬ t = 97 ∧ ¬ t = 99) (ht : ah_ty t = some ty) : ah_ok D U H a (t, fs) ↔ ∃ cA : ClassId, H[a]? = some (arrV cA fs.length (vp_V fs)) ∧ ArrOfT U cA ty ∧ va_RA U cA ty := by
  unfold ah_ok
  simp only [hx, ht, if_neg h9.1, if_neg h9.2]
theorem ah_ok.moved {D : va_G} {u U : State} (hvm : u.vm.Alike U.vm) {H : Heap} {a : Nat} {c : ah_C} (h : ah_ok D u H a c) : ah_ok D U H a c := by
  obtain ⟨t, fs⟩ := c
  cases hx : ah_ex t with
  | some E =>
    rw [ah_ok_e hx] at h ⊢
    obtain ⟨cell, h1, h2, h3⟩ := h
    exact ⟨cell, h1, by rw [hvm.findClass]; exact h2, h3⟩
  | none =>
    by_cases h7 : t = 97
    · subst h7
      rw [ah_ok_z] at h ⊢
      exact ⟨h.1.moved hvm, h.2.moved hvm⟩
    by_cases h9' : t = 99
    · subst h9'
      rw [ah_ok_s] at h ⊢
      obtain ⟨cell, h1, h2, h3⟩ := h
      exact ⟨cell, h1, State.isArrayOf_alike hvm h2, h3⟩
    have h9 : ¬ t = 97 ∧ ¬ t = 99 := ⟨h7, h9'⟩
    cases ht : ah_ty t with
    | none => rw [ah_ok_o hx h9 ht] at h ⊢; exact h
    | some ty =>
      rw [ah_ok_a hx h9 ht] at h ⊢
      obtain ⟨cA, h1, h2, h3⟩ := h
      exact ⟨cA, h1, arrOfT_moved hvm h2, h3.moved hvm⟩
theorem ah_ok.kept {D : va_G} {U : State} {H H1 : Heap} {a : Nat} {c : ah_C} (h : ah_ok D U H a c) (hq : H1[a]? = H[a]?) : ah_ok D U H1 a c := by
  obtain ⟨t, fs⟩ := c
  cases hx : ah_ex t with
  | some E =>
    rw [ah_ok_e hx] at h ⊢
    obtain ⟨cell, h1, h2⟩ := h
    exact ⟨cell, hq.trans h1, h2⟩
  | none =>
    by_cases h7 : t = 97
    · subst h7
      rw [ah_ok_z] at h ⊢
      exact ⟨h.1.kept hq, h.2.kept hq⟩
    by_cases h9' : t = 99
    · subst h9'
      rw [ah_ok_s] at h ⊢
      obtain ⟨cell, h1, h2⟩ := h
      exact ⟨cell, hq.trans h1, h2⟩
    have h9 : ¬ t = 97 ∧ ¬ t = 99 := ⟨h7, h9'⟩
    cases ht : ah_ty t with
    | none =>
      rw [ah_ok_o hx h9 ht] at h ⊢
      obtain ⟨r, h1, h2, h3⟩ := h
      exact ⟨r, h1, h2, h3.kept hq⟩
    | some ty =>
      rw [ah_ok_a hx h9 ht] at h ⊢
      obtain ⟨cA, h1, h2, h3⟩ := h
      exact ⟨cA, hq.trans h1, h2, h3⟩
theorem ah_ok.lt {D : va_G} {U : State} {H : Heap} {a : Nat} {c : ah_C} (h : ah_ok D U H a c) : a < H.size := by
  obtain ⟨t, fs⟩ := c
  cases hx : ah_ex t with
  | some E =>
    rw [ah_ok_e hx] at h
    obtain ⟨cell, h1, -⟩ := h
    exact (Array.getElem?_eq_some_iff.mp h1).1
  | none =>
    by_cases h7 : t = 97
    · subst h7
      rw [ah_ok_z] at h
      obtain ⟨cf, kf, fi, f, cell, v, -, -, -, h4, -⟩ := h.1
      exact (Array.getElem?_eq_some_iff.mp h4).1
    by_cases h9' : t = 99
    · subst h9'
      rw [ah_ok_s] at h
      obtain ⟨cell, h1, -⟩ := h
      exact (Array.getElem?_eq_some_iff.mp h1).1
    have h9 : ¬ t = 97 ∧ ¬ t = 99 := ⟨h7, h9'⟩
    cases ht : ah_ty t with
    | none =>
      rw [ah_ok_o hx h9 ht] at h
      obtain ⟨r, h1, h2, cell, h3, -⟩ := h
      exact (Array.getElem?_eq_some_iff.mp h3).1
    | some ty =>
      rw [ah_ok_a hx h9 ht] at h
      obtain ⟨cA, h1, -⟩ := h
      exact (Array.getElem?_eq_some_iff.mp h1).1
def ah_P (D : va_G) (U : State) (h : ah_H) (H : Heap) : Prop := H.size = h.1 ∧ ∀ (a : Nat) (c : ah_C), h.2.2 a = some c → ah_ok D U H a c
theorem ah_P.moved {D : va_G} {u U : State} (hvm : u.vm.Alike U.vm) {h : ah_H} {H : Heap} (hP : ah_P D u h H) : ah_P D U h H := ⟨hP.1, fun a c hc => (hP.2 a c hc).moved hvm⟩
theorem ah_P.sto {D : va_G} {U : State} {h : ah_H} {H H1 : Heap} {a i : Nat} {v : Value} (hP : ah_P D U h H) (hz : H1.size = H.size) (ho : ∀ q : Nat, q ≠ a → H1[q]? = H[q]?) (hc : ∀ c, h.2.2 a = some c → ah_ok D U H1 a (c.1, c.2.set i v)) : ah_P D U (ah_sto h a i v) H1 := by
  refine ⟨hz.trans hP.1, fun q c hq => ?_⟩
  by_cases he : q = a
  · subst he
    simp only [ah_sto, if_true] at hq
    cases hx : h.2.2 q with
    | none => rw [hx] at hq; cases hq
    | some c0 =>
      rw [hx] at hq
      cases hq
      exact hc c0 hx
  · simp only [ah_sto, if_neg he] at hq
    exact (hP.2 q c hq).kept (ho q he)
theorem ah_P.new {D : va_G} {U : State} {h : ah_H} {H H1 : Heap} {c : ah_C} (hP : ah_P D U h H) (hz : H1.size = H.size + 1) (ho : ∀ q : Nat, q < H.size → H1[q]? = H[q]?) (hc : ah_ok D U H1 h.1 c) : ah_P D U (ah_new h c) H1 := by
  refine ⟨by rw [hz, hP.1]; rfl, fun q c' hq => ?_⟩
  by_cases he : q = h.1
  · subst he
    simp only [ah_new, if_true] at hq
    cases hq
    exact hc
  · simp only [ah_new, if_neg he] at hq
    have h1 := hP.2 q c' hq
    exact h1.kept (ho q h1.lt)
theorem ah_sel_some {h : ah_H} {a t i : Nat} {v : Value} (hs : ah_sel h a t i = some v) : ∃ fs, h.2.2 a = some (t, fs) ∧ fs[i]? = some v := by
  unfold ah_sel at hs
  split at hs
  · next c hc =>
    split at hs
    · next ht => exact ⟨c.2, by rw [hc, ← ht], hs⟩
    · cases hs
  · cases hs
/-- what stands fast through a method's walk -/
def ah_X (M : ah_M) (d : Nat) (p : Program) (l : Launch) (R : Room) (s : State) (m : MethodId) (meth : Method) (c : Code) (D : va_G) : Prop :=
  p.tables.exec = Jvm.exec ∧ c.code = M.2.1 ∧ c.maxLocals = M.2.2.1 ∧ meth.sig.returnType = M.2.2.2.1 ∧ meth.locks = false ∧ meth.name = M.1.name ∧ s.vm.findClass M.1.cls = some m.cls ∧
  c.exceptionTable.toList.map (fun x => (x.startPc, x.endPc, x.handlerPc, x.catchType)) = M.2.2.2.2 ∧ ah_K D s ∧ d ≤ R.frames ∧ 64 * d ≤ R.locals ∧ l.stackTraces = false
def ah_Fr (s t : State) (L : List Loc) (k n : Nat) : Prop := s.WarmedH t.vm ∧ s.sameButNew ({ t with vm := s.vm } : State) L k n
def ah_Q (below : List Frame) (D : va_G) (s : State) (A : Nat → Prop) (o : Outcome) (h2 : ah_H) (k n : Nat) : State → Prop := fun t =>
  t.status = .running ∧ Ended t below o ∧ ah_P D t h2 t.heap ∧ ∃ L, ah_Fr s t L k n ∧ ∀ q ∈ L, A q.base
/-- THE JUDGEMENT: h0 is the heap at the method's entry -/
def ah_At (M : ah_M) (d : Nat) (A : Nat → Prop) (h0 : ah_H) (o : Outcome) (h2 : ah_H) (pc : Nat) (lv : List (Nat × Value)) (st : List Value) (h : ah_H) : Prop :=
  (h.1 ≤ h2.1 ∧ h.2.1 ≤ h2.2.1) ∧
  ∀ (p : Program) (l : Launch) (e : Env) (R : Room) (s : State) (m : MethodId) (args : Array Value) (below : List Frame) (meth : Method) (c : Code) (D : va_G) (H : Heap) (locs : List Loc) (cells slots : Nat) (ls : Array Slot),
    ah_X M d p l R s m meth c D → ah_P D s h0 s.heap → h2.1 ≤ h0.1 + R.cells → h2.2.1 ≤ h0.2.1 + R.slots → h.1 = h0.1 + cells → h.2.1 = h0.2.1 + slots →
    ah_P D s h H → (∀ q ∈ locs, A q.base) → lv_has ls M.2.2.1 lv →
    W p l e R s m args below meth c H locs cells slots (ah_Q below D s A o h2 (h2.1 - h0.1) (h2.2.1 - h0.2.1)) (F0 m pc ls st)
/-- operations that leave the heap alone -/
theorem ah_pure {M : ah_M} {d : Nat} {A : Nat → Prop} {h0 : ah_H} {o : Outcome} {h2 h : ah_H} {pc pc' : Nat} {lv lv' : List (Nat × Value)} {st st' : List Value}
    (hW : ∀ {p : Program} {l : Launch} {e : Env} {R : Room} {s : State} {m : MethodId} {args : Array Value} {below : List Frame} {meth : Method} {c : Code} {D : va_G} {H : Heap} {locs : List Loc} {cells slots : Nat} {Q : State → Prop} {ls : Array Slot},
      p.tables.exec = Jvm.exec → c.code = M.2.1 → s.vm.findClass M.1.cls = some m.cls → ah_K D s → lv_has ls M.2.2.1 lv →
      (∀ ls' : Array Slot, lv_has ls' M.2.2.1 lv' → W p l e R s m args below meth c H locs cells slots Q (F0 m pc' ls' st')) → W p l e R s m args below meth c H locs cells slots Q (F0 m pc ls st))
    (hA : ah_At M d A h0 o h2 pc' lv' st' h) : ah_At M d A h0 o h2 pc lv st h := by
  refine ⟨hA.1, fun p l e R s m args below meth c D H locs cells slots ls X z0 r1 r2 r3 r4 hP hL hl => ?_⟩
  exact hW X.1 X.2.1 X.2.2.2.2.2.2.1 X.2.2.2.2.2.2.2.2.1 hl (fun ls' hl' => hA.2 p l e R s m args below meth c D H locs cells slots ls' X z0 r1 r2 r3 r4 hP hL hl')
end
section
/-! OPERATIONS that leave the heap alone, and their rows -/
def al_g : List (Nat × Value) → Nat → Option Value
  | [], _ => none
  | q :: r, i => if q.1 = i then some q.2 else al_g r i
def al_o (i : Nat) (w : Bool) (q : Nat × Value) : Bool := !(q.1 == i) && !(q.1 + 1 == i && q.2.category == 2) && !(w && q.1 == i + 1)
def al_u (w : Bool) (i : Nat) (v : Value) : List (Nat × Value) → List (Nat × Value)
  | [] => [(i, v)]
  | q :: r => if q.1 = i then (i, v) :: r.filter (al_o i w) else if al_o i w q = true then q :: al_u w i v r else al_u w i v r
theorem al_mem {lv : List (Nat × Value)} {i : Nat} {v : Value} (h : al_g lv i = some v) : (i, v) ∈ lv := by
  induction lv with
  | nil => cases h
  | cons q r ih =>
    unfold al_g at h
    split at h
    · next e =>
      cases h
      subst e
      exact List.mem_cons_self
    · exact List.mem_cons_of_mem _ (ih h)
theorem al_at {ls : Array Slot} {nL i : Nat} {v : Value} {lv : List (Nat × Value)} (hl : lv_has ls nL lv) (h : al_g lv i = some v) : ls[i]? = some (.val v) := hl.2.2 _ (al_mem h)
theorem al_umem {w : Bool} {i : Nat} {v : Value} {x : Nat × Value} : ∀ {lv : List (Nat × Value)}, x ∈ al_u w i v lv → x = (i, v) ∨ (x ∈ lv ∧ al_o i w x = true)
  | [], h => Or.inl (by simpa [al_u] using h)
  | q :: r, h => by
    unfold al_u at h
    split at h
    · rcases List.mem_cons.mp h with h | h
      · exact Or.inl h
      · obtain ⟨h1, h2⟩ := List.mem_filter.mp h
        exact Or.inr ⟨List.mem_cons_of_mem _ h1, h2⟩
    · split at h
      · next h0 =>
        rcases List.mem_cons.mp h with h | h
        · subst h
          exact Or.inr ⟨List.mem_cons_self, h0⟩
        · rcases al_umem h with h | ⟨h1, h2⟩
          · exact Or.inl h
          · exact Or.inr ⟨List.mem_cons_of_mem _ h1, h2⟩
      · rcases al_umem h with h | ⟨h1, h2⟩
        · exact Or.inl h
        · exact Or.inr ⟨List.mem_cons_of_mem _ h1, h2⟩
theorem al_sub {ls : Array Slot} {nL : Nat} {l l' : List (Nat × Value)} (h : lv_has ls nL l) (hs : ∀ q ∈ l', q ∈ l) : lv_has ls nL l' := ⟨h.1, h.2.1, fun q hq => h.2.2 q (hs q hq)⟩
theorem al_u1 {ls : Array Slot} {nL i : Nat} {v : Value} {lv : List (Nat × Value)} (h : lv_has ls nL ((i, v) :: lv.filter (fun q => !(q.1 == i) && !(q.1 + 1 == i && q.2.category == 2)))) : lv_has ls nL (al_u false i v lv) := by
  refine al_sub h (fun q hq => ?_)
  rcases al_umem hq with h | ⟨h1, h2⟩
  · rw [h]; exact List.mem_cons_self
  · refine List.mem_cons_of_mem _ (List.mem_filter.mpr ⟨h1, ?_⟩)
    simpa [al_o] using h2
theorem al_u2 {ls : Array Slot} {nL i : Nat} {v : Value} {lv : List (Nat × Value)} (h : lv_has ls nL ((i, v) :: lv.filter (fun q => !(q.1 == i) && (!(q.1 == i + 1) && !(q.1 + 1 == i && q.2.category == 2))))) : lv_has ls nL (al_u true i v lv) := by
  refine al_sub h (fun q hq => ?_)
  rcases al_umem hq with h | ⟨h1, h2⟩
  · rw [h]; exact List.mem_cons_self
  · refine List.mem_cons_of_mem _ (List.mem_filter.mpr ⟨h1, ?_⟩)
    simp only [al_o, Bool.and_eq_true, Bool.true_and] at h2 ⊢
    exact ⟨h2.1.1, h2.2, h2.1.2⟩
theorem ah_fork {M : ah_M} {d : Nat} {A : Nat → Prop} {h0 : ah_H} {o : Outcome} {h2 h : ah_H} {pc t n : Nat} {lv : List (Nat × Value)} {st st' : List Value} {c : Prop}
    (hW : ∀ {p : Program} {l : Launch} {e : Env} {R : Room} {s : State} {m : MethodId} {args : Array Value} {below : List Frame} {meth : Method} {c0 : Code} {H : Heap} {locs : List Loc} {cells slots : Nat} {Q : State → Prop} {ls : Array Slot},
      p.tables.exec = Jvm.exec → c0.code = M.2.1 →
      (c → W p l e R s m args below meth c0 H locs cells slots Q (F0 m t ls st')) → (¬ c → W p l e R s m args below meth c0 H locs cells slots Q (F0 m n ls st')) → W p l e R s m args below meth c0 H locs cells slots Q (F0 m pc ls st))
    (hA : (c → ah_At M d A h0 o h2 t lv st' h) ∧ (¬ c → ah_At M d A h0 o h2 n lv st' h)) : ah_At M d A h0 o h2 pc lv st h := by
  refine ⟨?_, fun p l e R s m args below meth c0 D H locs cells slots ls X z0 r1 r2 r3 r4 hP hL hl => ?_⟩
  · by_cases z : c
    · exact (hA.1 z).1
    · exact (hA.2 z).1
  · exact hW X.1 X.2.1 (fun z => (hA.1 z).2 p l e R s m args below meth c0 D H locs cells slots ls X z0 r1 r2 r3 r4 hP hL hl) (fun z => (hA.2 z).2 p l e R s m args below meth c0 D H locs cells slots ls X z0 r1 r2 r3 r4 hP hL hl)
section AhRows
variable {M : ah_M} {d : Nat} {A : Nat → Prop} {h0 : ah_H} {o : Outcome} {h2 h : ah_H} {pc : Nat} {lv : List (Nat × Value)} {st : List Value}
theorem s_iconst {i : Int} {v : Int32} (hd : decode M.2.1 pc = .ok (.iconst i, 1)) (hv : Int32.ofInt i = v) (n : ah_At M d A h0 o h2 (pc + 1) lv (.int v :: st) h) : ah_At M d A h0 o h2 pc lv st h := ah_pure (fun hx hb ho hK hl k => lv_iconst hx hb hd hv (k _ hl)) n
theorem s_bipush {i : Int} {v : Int32} (hd : decode M.2.1 pc = .ok (.bipush i, 2)) (hv : (Int8.ofInt i).toInt32 = v) (n : ah_At M d A h0 o h2 (pc + 2) lv (.int v :: st) h) : ah_At M d A h0 o h2 pc lv st h := ah_pure (fun hx hb ho hK hl k => lv_bipush hx hb hd hv (k _ hl)) n
theorem s_sipush {i : Int} {v : Int32} (hd : decode M.2.1 pc = .ok (.sipush i, 3)) (hv : (Int16.ofInt i).toInt32 = v) (n : ah_At M d A h0 o h2 (pc + 3) lv (.int v :: st) h) : ah_At M d A h0 o h2 pc lv st h := ah_pure (fun hx hb ho hK hl k => lv_sipush hx hb hd hv (k _ hl)) n
theorem s_lconst {i : Fin 2} {v : Int64} (hd : decode M.2.1 pc = .ok (.lconst i, 1)) (hv : Int64.ofNat (i : Nat) = v) (n : ah_At M d A h0 o h2 (pc + 1) lv (.long v :: st) h) : ah_At M d A h0 o h2 pc lv st h := ah_pure (fun hx hb ho hK hl k => lv_lconst hx hb hd hv (k _ hl)) n
theorem s_ldc {i : Nat} {v : Int32} (hd : decode M.2.1 pc = .ok (.ldc i, 2)) (hw : Jvm.Cond.constant M.1.cls i v ∈ ah_W) (n : ah_At M d A h0 o h2 (pc + 2) lv (.int v :: st) h) : ah_At M d A h0 o h2 pc lv st h := ah_pure (fun hx hb ho hK hl k => lv_ldc hx hb ho (hK.w hw) hd (k _ hl)) n
theorem s_ldc2_w {i : Nat} {v : Int64} (hd : decode M.2.1 pc = .ok (.ldc2_w i, 3)) (hw : Jvm.Cond.constantLong M.1.cls i v ∈ ah_W) (n : ah_At M d A h0 o h2 (pc + 3) lv (.long v :: st) h) : ah_At M d A h0 o h2 pc lv st h := ah_pure (fun hx hb ho hK hl k => lv_ldc2 hx hb ho (hK.w hw) hd (k _ hl)) n
theorem s_goto {off : Int} {t : Nat} (hd : decode M.2.1 pc = .ok (.goto off, 3)) (ht : (pc : Int) + off = (t : Int)) (n : ah_At M d A h0 o h2 t lv st h) : ah_At M d A h0 o h2 pc lv st h := ah_pure (fun hx hb ho hK hl k => lv_goto hx hb hd ht (k _ hl)) n
theorem s_iload_n {q : Fin 4} {i : Nat} {x : Int32} (hd : decode M.2.1 pc = .ok (.iload_n q, 1)) (hi : (q : Nat) = i) (hg : al_g lv i = some (.int x)) (n : ah_At M d A h0 o h2 (pc + 1) lv (.int x :: st) h) : ah_At M d A h0 o h2 pc lv st h := ah_pure (fun hx hb ho hK hl k => lv_iload_n hx hb hd hi (al_at hl hg) (k _ hl)) n
theorem s_iload {i : Nat} {x : Int32} (hd : decode M.2.1 pc = .ok (.iload i, 2)) (hg : al_g lv i = some (.int x)) (n : ah_At M d A h0 o h2 (pc + 2) lv (.int x :: st) h) : ah_At M d A h0 o h2 pc lv st h := ah_pure (fun hx hb ho hK hl k => lv_iload hx hb hd (al_at hl hg) (k _ hl)) n
theorem s_istore_n {q : Fin 4} {i : Nat} {x : Int32} {lv' : List (Nat × Value)} (hd : decode M.2.1 pc = .ok (.istore_n q, 1)) (hi : (q : Nat) = i) (hL : i < M.2.2.1) (hu : al_u false i (.int x) lv = lv') (n : ah_At M d A h0 o h2 (pc + 1) lv' st h) : ah_At M d A h0 o h2 pc lv (.int x :: st) h := ah_pure (fun hx hb ho hK hl k => lv_istore_n hx hb hd hi hl hL rfl (fun ls' hl' => k ls' (hu ▸ al_u1 hl'))) n
theorem s_istore {i : Nat} {x : Int32} {lv' : List (Nat × Value)} (hd : decode M.2.1 pc = .ok (.istore i, 2)) (hL : i < M.2.2.1) (hu : al_u false i (.int x) lv = lv') (n : ah_At M d A h0 o h2 (pc + 2) lv' st h) : ah_At M d A h0 o h2 pc lv (.int x :: st) h := ah_pure (fun hx hb ho hK hl k => lv_istore hx hb hd hl hL rfl (fun ls' hl' => k ls' (hu ▸ al_u1 hl'))) n
theorem s_lload_n {q : Fin 4} {i : Nat} {x : Int64} (hd : decode M.2.1 pc = .ok (.lload_n q, 1)) (hi : (q : Nat) = i) (hg : al_g lv i = some (.long x)) (n : ah_At M d A h0 o h2 (pc + 1) lv (.long x :: st) h) : ah_At M d A h0 o h2 pc lv st h := ah_pure (fun hx hb ho hK hl k => lv_lload_n hx hb hd hi (al_at hl hg) (k _ hl)) n
theorem s_lload {i : Nat} {x : Int64} (hd : decode M.2.1 pc = .ok (.lload i, 2)) (hg : al_g lv i = some (.long x)) (n : ah_At M d A h0 o h2 (pc + 2) lv (.long x :: st) h) : ah_At M d A h0 o h2 pc lv st h := ah_pure (fun hx hb ho hK hl k => lv_lload hx hb hd (al_at hl hg) (k _ hl)) n
theorem s_lstore_n {q : Fin 4} {i : Nat} {x : Int64} {lv' : List (Nat × Value)} (hd : decode M.2.1 pc = .ok (.lstore_n q, 1)) (hi : (q : Nat) = i) (hL : i + 1 < M.2.2.1) (hu : al_u true i (.long x) lv = lv') (n : ah_At M d A h0 o h2 (pc + 1) lv' st h) : ah_At M d A h0 o h2 pc lv (.long x :: st) h := ah_pure (fun hx hb ho hK hl k => lv_lstore_n hx hb hd hi hl hL rfl (fun ls' hl' => k ls' (hu ▸ al_u2 hl'))) n
theorem s_lstore {i : Nat} {x : Int64} {lv' : List (Nat × Value)} (hd : decode M.2.1 pc = .ok (.lstore i, 2)) (hL : i + 1 < M.2.2.1) (hu : al_u true i (.long x) lv = lv') (n : ah_At M d A h0 o h2 (pc + 2) lv' st h) : ah_At M d A h0 o h2 pc lv (.long x :: st) h := ah_pure (fun hx hb ho hK hl k => lv_lstore hx hb hd hl hL rfl (fun ls' hl' => k ls' (hu ▸ al_u2 hl'))) n
theorem s_aload_n {q : Fin 4} {i : Nat} {x : Nat} (hd : decode M.2.1 pc = .ok (.aload_n q, 1)) (hi : (q : Nat) = i) (hg : al_g lv i = some (.ref x)) (n : ah_At M d A h0 o h2 (pc + 1) lv (.ref x :: st) h) : ah_At M d A h0 o h2 pc lv st h := ah_pure (fun hx hb ho hK hl k => lv_aload_n hx hb hd hi (al_at hl hg) (k _ hl)) n
theorem s_aload {i : Nat} {x : Nat} (hd : decode M.2.1 pc = .ok (.aload i, 2)) (hg : al_g lv i = some (.ref x)) (n : ah_At M d A h0 o h2 (pc + 2) lv (.ref x :: st) h) : ah_At M d A h0 o h2 pc lv st h := ah_pure (fun hx hb ho hK hl k => lv_aload hx hb hd (al_at hl hg) (k _ hl)) n
theorem s_astore_n {q : Fin 4} {i : Nat} {x : Nat} {lv' : List (Nat × Value)} (hd : decode M.2.1 pc = .ok (.astore_n q, 1)) (hi : (q : Nat) = i) (hL : i < M.2.2.1) (hu : al_u false i (.ref x) lv = lv') (n : ah_At M d A h0 o h2 (pc + 1) lv' st h) : ah_At M d A h0 o h2 pc lv (.ref x :: st) h := ah_pure (fun hx hb ho hK hl k => lv_astore_n hx hb hd hi hl hL rfl (fun ls' hl' => k ls' (hu ▸ al_u1 hl'))) n
theorem s_astore {i : Nat} {x : Nat} {lv' : List (Nat × Value)} (hd : decode M.2.1 pc = .ok (.astore i, 2)) (hL : i < M.2.2.1) (hu : al_u false i (.ref x) lv = lv') (n : ah_At M d A h0 o h2 (pc + 2) lv' st h) : ah_At M d A h0 o h2 pc lv (.ref x :: st) h := ah_pure (fun hx hb ho hK hl k => lv_astore hx hb hd hl hL rfl (fun ls' hl' => k ls' (hu ▸ al_u1 hl'))) n
theorem al_k {lv : List (Nat × Value)} {i : Nat} {v : Value} (h : al_g lv i = some v) : ∃ k : Nat, lv[k]? = some (i, v) := List.getElem?_of_mem (al_mem h)
theorem s_iinc {i : Nat} {j : Int} {x v : Int32} {lv' : List (Nat × Value)} (hd : decode M.2.1 pc = .ok (.iinc i j, 3)) (hg : al_g lv i = some (.int x)) (hv : x + Int32.ofInt j = v) (hL : i < M.2.2.1) (hu : al_u false i (.int v) lv = lv') (n : ah_At M d A h0 o h2 (pc + 3) lv' st h) : ah_At M d A h0 o h2 pc lv st h := by
  obtain ⟨k0, hk0⟩ := al_k hg
  exact ah_pure (fun hx hb ho hK hl k => lv_iinc hx hb hd hl hk0 hv hL rfl (fun ls' hl' => k ls' (hu ▸ al_u1 hl'))) n
theorem s_iadd {x y : Int32} (hd : decode M.2.1 pc = .ok (.iadd, 1)) (n : ah_At M d A h0 o h2 (pc + 1) lv (.int (x + y) :: st) h) : ah_At M d A h0 o h2 pc lv (.int y :: .int x :: st) h := ah_pure (fun hx hb ho hK hl k => lv_iadd hx hb hd (k _ hl)) n
theorem s_isub {x y : Int32} (hd : decode M.2.1 pc = .ok (.isub, 1)) (n : ah_At M d A h0 o h2 (pc + 1) lv (.int (x - y) :: st) h) : ah_At M d A h0 o h2 pc lv (.int y :: .int x :: st) h := ah_pure (fun hx hb ho hK hl k => lv_isub hx hb hd (k _ hl)) n
theorem s_imul {x y : Int32} (hd : decode M.2.1 pc = .ok (.imul, 1)) (n : ah_At M d A h0 o h2 (pc + 1) lv (.int (x * y) :: st) h) : ah_At M d A h0 o h2 pc lv (.int y :: .int x :: st) h := ah_pure (fun hx hb ho hK hl k => lv_imul hx hb hd (k _ hl)) n
theorem s_iand {x y : Int32} (hd : decode M.2.1 pc = .ok (.iand, 1)) (n : ah_At M d A h0 o h2 (pc + 1) lv (.int (x &&& y) :: st) h) : ah_At M d A h0 o h2 pc lv (.int y :: .int x :: st) h := ah_pure (fun hx hb ho hK hl k => lv_iand hx hb hd (k _ hl)) n
theorem s_ior {x y : Int32} (hd : decode M.2.1 pc = .ok (.ior, 1)) (n : ah_At M d A h0 o h2 (pc + 1) lv (.int (x ||| y) :: st) h) : ah_At M d A h0 o h2 pc lv (.int y :: .int x :: st) h := ah_pure (fun hx hb ho hK hl k => lv_ior hx hb hd (k _ hl)) n
theorem s_ixor {x y : Int32} (hd : decode M.2.1 pc = .ok (.ixor, 1)) (n : ah_At M d A h0 o h2 (pc + 1) lv (.int (x ^^^ y) :: st) h) : ah_At M d A h0 o h2 pc lv (.int y :: .int x :: st) h := ah_pure (fun hx hb ho hK hl k => lv_ixor hx hb hd (k _ hl)) n
theorem s_ishl {x y : Int32} (hd : decode M.2.1 pc = .ok (.ishl, 1)) (n : ah_At M d A h0 o h2 (pc + 1) lv (.int (x <<< (y &&& 31)) :: st) h) : ah_At M d A h0 o h2 pc lv (.int y :: .int x :: st) h := ah_pure (fun hx hb ho hK hl k => lv_ishl hx hb hd (k _ hl)) n
theorem s_ishr {x y : Int32} (hd : decode M.2.1 pc = .ok (.ishr, 1)) (n : ah_At M d A h0 o h2 (pc + 1) lv (.int (x >>> (y &&& 31)) :: st) h) : ah_At M d A h0 o h2 pc lv (.int y :: .int x :: st) h := ah_pure (fun hx hb ho hK hl k => lv_ishr hx hb hd (k _ hl)) n
theorem s_idiv {x y : Int32} (hd : decode M.2.1 pc = .ok (.idiv, 1)) (hne : ¬ y = 0) (n : ah_At M d A h0 o h2 (pc + 1) lv (.int (x / y) :: st) h) : ah_At M d A h0 o h2 pc lv (.int y :: .int x :: st) h := ah_pure (fun hx hb ho hK hl k => lv_idiv hx hb hd hne (k _ hl)) n
theorem s_irem {x y : Int32} (hd : decode M.2.1 pc = .ok (.irem, 1)) (hne : ¬ y = 0) (n : ah_At M d A h0 o h2 (pc + 1) lv (.int (x - x / y * y) :: st) h) : ah_At M d A h0 o h2 pc lv (.int y :: .int x :: st) h := ah_pure (fun hx hb ho hK hl k => lv_irem hx hb hd hne (k _ hl)) n
theorem s_ineg {x : Int32} (hd : decode M.2.1 pc = .ok (.ineg, 1)) (n : ah_At M d A h0 o h2 (pc + 1) lv (.int (-x) :: st) h) : ah_At M d A h0 o h2 pc lv (.int x :: st) h := ah_pure (fun hx hb ho hK hl k => lv_ineg hx hb hd (k _ hl)) n
theorem s_ladd {x y : Int64} (hd : decode M.2.1 pc = .ok (.ladd, 1)) (n : ah_At M d A h0 o h2 (pc + 1) lv (.long (x + y) :: st) h) : ah_At M d A h0 o h2 pc lv (.long y :: .long x :: st) h := ah_pure (fun hx hb ho hK hl k => lv_ladd hx hb hd (k _ hl)) n
theorem s_lsub {x y : Int64} (hd : decode M.2.1 pc = .ok (.lsub, 1)) (n : ah_At M d A h0 o h2 (pc + 1) lv (.long (x - y) :: st) h) : ah_At M d A h0 o h2 pc lv (.long y :: .long x :: st) h := ah_pure (fun hx hb ho hK hl k => lv_lsub hx hb hd (k _ hl)) n
theorem s_lmul {x y : Int64} (hd : decode M.2.1 pc = .ok (.lmul, 1)) (n : ah_At M d A h0 o h2 (pc + 1) lv (.long (x * y) :: st) h) : ah_At M d A h0 o h2 pc lv (.long y :: .long x :: st) h := ah_pure (fun hx hb ho hK hl k => lv_lmul hx hb hd (k _ hl)) n
theorem s_land {x y : Int64} (hd : decode M.2.1 pc = .ok (.land, 1)) (n : ah_At M d A h0 o h2 (pc + 1) lv (.long (x &&& y) :: st) h) : ah_At M d A h0 o h2 pc lv (.long y :: .long x :: st) h := ah_pure (fun hx hb ho hK hl k => lv_land hx hb hd (k _ hl)) n
theorem s_lor {x y : Int64} (hd : decode M.2.1 pc = .ok (.lor, 1)) (n : ah_At M d A h0 o h2 (pc + 1) lv (.long (x ||| y) :: st) h) : ah_At M d A h0 o h2 pc lv (.long y :: .long x :: st) h := ah_pure (fun hx hb ho hK hl k => lv_lor hx hb hd (k _ hl)) n
theorem s_ldiv {x y : Int64} (hd : decode M.2.1 pc = .ok (.ldiv, 1)) (hne : ¬ y = 0) (n : ah_At M d A h0 o h2 (pc + 1) lv (.long (x / y) :: st) h) : ah_At M d A h0 o h2 pc lv (.long y :: .long x :: st) h := ah_pure (fun hx hb ho hK hl k => lv_ldiv hx hb hd hne (k _ hl)) n
theorem s_lrem {x y : Int64} (hd : decode M.2.1 pc = .ok (.lrem, 1)) (hne : ¬ y = 0) (n : ah_At M d A h0 o h2 (pc + 1) lv (.long (x - x / y * y) :: st) h) : ah_At M d A h0 o h2 pc lv (.long y :: .long x :: st) h := ah_pure (fun hx hb ho hK hl k => lv_lrem hx hb hd hne (k _ hl)) n
theorem s_lcmp {x y : Int64} (hd : decode M.2.1 pc = .ok (.lcmp, 1)) (n : ah_At M d A h0 o h2 (pc + 1) lv (.int (lg_cmp x y) :: st) h) : ah_At M d A h0 o h2 pc lv (.long y :: .long x :: st) h := ah_pure (fun hx hb ho hK hl k => W.lcmp hx hb hd (k _ hl)) n
theorem s_lshl {x : Int64} {y : Int32} (hd : decode M.2.1 pc = .ok (.lshl, 1)) (n : ah_At M d A h0 o h2 (pc + 1) lv (.long (x <<< (y.toInt64 &&& 63)) :: st) h) : ah_At M d A h0 o h2 pc lv (.int y :: .long x :: st) h := ah_pure (fun hx hb ho hK hl k => lv_lshl hx hb hd rfl (k _ hl)) n
theorem s_i2l {x : Int32} (hd : decode M.2.1 pc = .ok (.i2l, 1)) (n : ah_At M d A h0 o h2 (pc + 1) lv (.long x.toInt64 :: st) h) : ah_At M d A h0 o h2 pc lv (.int x :: st) h := ah_pure (fun hx hb ho hK hl k => lv_i2l hx hb hd rfl (k _ hl)) n
theorem s_l2i {x : Int64} (hd : decode M.2.1 pc = .ok (.l2i, 1)) (n : ah_At M d A h0 o h2 (pc + 1) lv (.int x.toInt32 :: st) h) : ah_At M d A h0 o h2 pc lv (.long x :: st) h := ah_pure (fun hx hb ho hK hl k => lv_l2i hx hb hd rfl (k _ hl)) n
theorem s_dup {v : Value} (hd : decode M.2.1 pc = .ok (.dup, 1)) (hc : v.category = 1) (n : ah_At M d A h0 o h2 (pc + 1) lv (v :: v :: st) h) : ah_At M d A h0 o h2 pc lv (v :: st) h := ah_pure (fun hx hb ho hK hl k => lv_dup hx hb hd hc (k _ hl)) n
theorem s_pop {v : Value} (hd : decode M.2.1 pc = .ok (.pop, 1)) (hc : v.category = 1) (n : ah_At M d A h0 o h2 (pc + 1) lv st h) : ah_At M d A h0 o h2 pc lv (v :: st) h := ah_pure (fun hx hb ho hK hl k => lv_pop hx hb hd hc (k _ hl)) n
theorem s_dup_x1 {v w : Value} (hd : decode M.2.1 pc = .ok (.dup_x1, 1)) (hc : v.category = 1) (hw : w.category = 1) (n : ah_At M d A h0 o h2 (pc + 1) lv (v :: w :: v :: st) h) : ah_At M d A h0 o h2 pc lv (v :: w :: st) h := ah_pure (fun hx hb ho hK hl k => lv_dup_x1 hx hb hd hc hw (k _ hl)) n
theorem s_dup2 {v w : Value} (hd : decode M.2.1 pc = .ok (.dup2, 1)) (hc : v.category = 1) (hw : w.category = 1) (n : ah_At M d A h0 o h2 (pc + 1) lv (v :: w :: v :: w :: st) h) : ah_At M d A h0 o h2 pc lv (v :: w :: st) h := ah_pure (fun hx hb ho hK hl k => lv_dup2_11 hx hb hd hc hw (k _ hl)) n
theorem s_ifeq {x : Int32} {off : Int} {t : Nat} (hd : decode M.2.1 pc = .ok (.ifCond .eq off, 3)) (ht : (pc : Int) + off = (t : Int)) (n1 : x = 0 → ah_At M d A h0 o h2 t lv st h) (n2 : ¬ (x = 0) → ah_At M d A h0 o h2 (pc + 3) lv st h) : ah_At M d A h0 o h2 pc lv (.int x :: st) h := ah_fork (c := x = 0) (fun hx hb kt kf => lv_if_eq hx hb hd ht kt (kf)) ⟨n1, n2⟩
theorem s_ifne {x : Int32} {off : Int} {t : Nat} (hd : decode M.2.1 pc = .ok (.ifCond .ne off, 3)) (ht : (pc : Int) + off = (t : Int)) (n1 : ¬ x = 0 → ah_At M d A h0 o h2 t lv st h) (n2 : ¬ (¬ x = 0) → ah_At M d A h0 o h2 (pc + 3) lv st h) : ah_At M d A h0 o h2 pc lv (.int x :: st) h := ah_fork (c := ¬ x = 0) (fun hx hb kt kf => lv_if_ne hx hb hd ht kt (fun z => kf (fun w => w z))) ⟨n1, n2⟩
theorem s_iflt {x : Int32} {off : Int} {t : Nat} (hd : decode M.2.1 pc = .ok (.ifCond .lt off, 3)) (ht : (pc : Int) + off = (t : Int)) (n1 : x < 0 → ah_At M d A h0 o h2 t lv st h) (n2 : ¬ (x < 0) → ah_At M d A h0 o h2 (pc + 3) lv st h) : ah_At M d A h0 o h2 pc lv (.int x :: st) h := ah_fork (c := x < 0) (fun hx hb kt kf => lv_if_lt hx hb hd ht kt (kf)) ⟨n1, n2⟩
theorem s_ifge {x : Int32} {off : Int} {t : Nat} (hd : decode M.2.1 pc = .ok (.ifCond .ge off, 3)) (ht : (pc : Int) + off = (t : Int)) (n1 : 0 ≤ x → ah_At M d A h0 o h2 t lv st h) (n2 : ¬ (0 ≤ x) → ah_At M d A h0 o h2 (pc + 3) lv st h) : ah_At M d A h0 o h2 pc lv (.int x :: st) h := ah_fork (c := 0 ≤ x) (fun hx hb kt kf => lv_if_ge hx hb hd ht kt (kf)) ⟨n1, n2⟩
theorem s_ifgt {x : Int32} {off : Int} {t : Nat} (hd : decode M.2.1 pc = .ok (.ifCond .gt off, 3)) (ht : (pc : Int) + off = (t : Int)) (n1 : 0 < x → ah_At M d A h0 o h2 t lv st h) (n2 : ¬ (0 < x) → ah_At M d A h0 o h2 (pc + 3) lv st h) : ah_At M d A h0 o h2 pc lv (.int x :: st) h := ah_fork (c := 0 < x) (fun hx hb kt kf => lv_if_gt hx hb hd ht kt (kf)) ⟨n1, n2⟩
theorem s_ifle {x : Int32} {off : Int} {t : Nat} (hd : decode M.2.1 pc = .ok (.ifCond .le off, 3)) (ht : (pc : Int) + off = (t : Int)) (n1 : x ≤ 0 → ah_At M d A h0 o h2 t lv st h) (n2 : ¬ (x ≤ 0) → ah_At M d A h0 o h2 (pc + 3) lv st h) : ah_At M d A h0 o h2 pc lv (.int x :: st) h := ah_fork (c := x ≤ 0) (fun hx hb kt kf => lv_if_le hx hb hd ht kt (kf)) ⟨n1, n2⟩
theorem s_if_icmpeq {x y : Int32} {off : Int} {t : Nat} (hd : decode M.2.1 pc = .ok (.if_icmp .eq off, 3)) (ht : (pc : Int) + off = (t : Int)) (n1 : x = y → ah_At M d A h0 o h2 t lv st h) (n2 : ¬ (x = y) → ah_At M d A h0 o h2 (pc + 3) lv st h) : ah_At M d A h0 o h2 pc lv (.int y :: .int x :: st) h := ah_fork (c := x = y) (fun hx hb kt kf => lv_icmp_eq hx hb hd ht kt (kf)) ⟨n1, n2⟩
theorem s_if_icmpne {x y : Int32} {off : Int} {t : Nat} (hd : decode M.2.1 pc = .ok (.if_icmp .ne off, 3)) (ht : (pc : Int) + off = (t : Int)) (n1 : ¬ x = y → ah_At M d A h0 o h2 t lv st h) (n2 : ¬ (¬ x = y) → ah_At M d A h0 o h2 (pc + 3) lv st h) : ah_At M d A h0 o h2 pc lv (.int y :: .int x :: st) h := ah_fork (c := ¬ x = y) (fun hx hb kt kf => lv_icmp_ne hx hb hd ht kt (fun z => kf (fun w => w z))) ⟨n1, n2⟩
theorem s_if_icmplt {x y : Int32} {off : Int} {t : Nat} (hd : decode M.2.1 pc = .ok (.if_icmp .lt off, 3)) (ht : (pc : Int) + off = (t : Int)) (n1 : x < y → ah_At M d A h0 o h2 t lv st h) (n2 : ¬ (x < y) → ah_At M d A h0 o h2 (pc + 3) lv st h) : ah_At M d A h0 o h2 pc lv (.int y :: .int x :: st) h := ah_fork (c := x < y) (fun hx hb kt kf => lv_icmp_lt hx hb hd ht kt (kf)) ⟨n1, n2⟩
theorem s_if_icmpge {x y : Int32} {off : Int} {t : Nat} (hd : decode M.2.1 pc = .ok (.if_icmp .ge off, 3)) (ht : (pc : Int) + off = (t : Int)) (n1 : y ≤ x → ah_At M d A h0 o h2 t lv st h) (n2 : ¬ (y ≤ x) → ah_At M d A h0 o h2 (pc + 3) lv st h) : ah_At M d A h0 o h2 pc lv (.int y :: .int x :: st) h := ah_fork (c := y ≤ x) (fun hx hb kt kf => lv_icmp_ge hx hb hd ht kt (kf)) ⟨n1, n2⟩
theorem s_if_icmpgt {x y : Int32} {off : Int} {t : Nat} (hd : decode M.2.1 pc = .ok (.if_icmp .gt off, 3)) (ht : (pc : Int) + off = (t : Int)) (n1 : y < x → ah_At M d A h0 o h2 t lv st h) (n2 : ¬ (y < x) → ah_At M d A h0 o h2 (pc + 3) lv st h) : ah_At M d A h0 o h2 pc lv (.int y :: .int x :: st) h := ah_fork (c := y < x) (fun hx hb kt kf => lv_icmp_gt hx hb hd ht kt (kf)) ⟨n1, n2⟩
theorem s_if_icmple {x y : Int32} {off : Int} {t : Nat} (hd : decode M.2.1 pc = .ok (.if_icmp .le off, 3)) (ht : (pc : Int) + off = (t : Int)) (n1 : x ≤ y → ah_At M d A h0 o h2 t lv st h) (n2 : ¬ (x ≤ y) → ah_At M d A h0 o h2 (pc + 3) lv st h) : ah_At M d A h0 o h2 pc lv (.int y :: .int x :: st) h := ah_fork (c := x ≤ y) (fun hx hb kt kf => lv_icmp_le hx hb hd ht kt (kf)) ⟨n1, n2⟩
/-- fewer listed locals, in any order -/
theorem ah_At.sub {lv' : List (Nat × Value)} (ks : List Nat) (hs : lv_pick lv ks = lv') (n : ah_At M d A h0 o h2 pc lv' st h) : ah_At M d A h0 o h2 pc lv st h := ah_pure (fun hx hb ho hK hl k => k _ (lv_sub hl ks hs)) n
theorem ah_tabOut {dflt lo hi : Int} {offs : Array Int} {len : Nat} {x : Int32} {t : Nat} (hd : decode M.2.1 pc = .ok (.tableswitch dflt lo hi offs, len)) (hx0 : x.toInt < lo ∨ hi < x.toInt) (ht : (pc : Int) + dflt = (t : Int)) (n : ah_At M d A h0 o h2 t lv st h) : ah_At M d A h0 o h2 pc lv (.int x :: st) h := ah_pure (fun hx hb ho hK hl k => lv_tableOut hx hb hd hx0 ht (k _ hl)) n
theorem ah_tabIn {dflt lo hi off : Int} {offs : Array Int} {len : Nat} {x : Int32} {t : Nat} (hd : decode M.2.1 pc = .ok (.tableswitch dflt lo hi offs, len)) (h1 : ¬ x.toInt < lo) (h3 : ¬ hi < x.toInt) (hoff : offs[(x.toInt - lo).toNat]? = some off) (ht : (pc : Int) + off = (t : Int)) (n : ah_At M d A h0 o h2 t lv st h) : ah_At M d A h0 o h2 pc lv (.int x :: st) h := ah_pure (fun hx hb ho hK hl k => lv_tableIn hx hb hd h1 h3 hoff ht (k _ hl)) n
end AhRows
end
section
/-! OPERATIONS on the heap -/
def ah_fit : FieldType → Value → Bool
  | .int, .int _ => true
  | .boolean, .int x => x == 0 || x == 1
  | .long, .long _ => true
  | .object _, .ref _ => true
  | .object _, .null => true
  | .array _, .ref _ => true
  | .array _, .null => true
  | _, _ => false
theorem ah_fit_ok {ty : FieldType} {v : Value} (h : ah_fit ty v = true) : narrow ty v = v ∧ fits ty v = true := by
  unfold ah_fit at h
  split at h
  · exact ⟨rfl, rfl⟩
  · next x =>
    simp only [Bool.or_eq_true, beq_iff_eq] at h
    rcases h with rfl | rfl
    · exact ⟨by decide +kernel, by decide +kernel⟩
    · exact ⟨by decide +kernel, by decide +kernel⟩
  · exact ⟨rfl, rfl⟩
  · exact ⟨rfl, rfl⟩
  · exact ⟨rfl, rfl⟩
  · exact ⟨rfl, rfl⟩
  · exact ⟨rfl, rfl⟩
  · cases h
theorem ah_isSome {α : Type} {x : Option α} (h : x.isSome = true) : ∃ v, x = some v := Option.isSome_iff_exists.mp h
theorem ah_len_some {h : ah_H} {a t n : Nat} (hs : ah_len h a t = some n) : ∃ fs, h.2.2 a = some (t, fs) ∧ fs.length = n := by
  unfold ah_len at hs
  split at hs
  · next c hc =>
    split at hs
    · next ht => cases hs; exact ⟨c.2, by rw [hc, ← ht], rfl⟩
    · cases hs
  · cases hs
/-- a field's link: the class's own, or a nest mate's -/
def ah_fl (own : String) (index : Nat) (x : String × String × String × Bool) : Prop := Cond.fieldLink own index x.1 x.2.1 x.2.2.1 ∈ ah_W ∨ ∃ host, Cond.fieldLinkNest own index x.1 x.2.1 x.2.2.1 host ∈ ah_W
/-- what is known of a class of the list: its place, its fields' types -/
def ah_cl (ci : Nat) (C : String) (T : u_T) (N : Nat) (ty : Nat → FieldType) : Prop :=
  (ci < 90 ∧ vwCl[ci]? = some (C, T, N)) ∧ (∀ w ∈ u_ws C T N, w ∈ ah_W) ∧ (∀ k, k < N → parseFieldDescriptor (T k).2.2.1 = some (ty k)) ∧ (∀ a, a < N → ∀ b, b < N → a ≠ b → (T a).2.1 ≠ (T b).2.1)
theorem ah_low {t : Nat} (h : t < 90) : ah_ex t = none ∧ (¬ t = 97 ∧ ¬ t = 99) ∧ ah_ty t = none := by
  refine ⟨?_, ⟨by omega, by omega⟩, ?_⟩
  · unfold ah_ex
    rw [if_neg (by omega), if_neg (by omega), if_neg (by omega), if_neg (by omega), if_neg (by omega)]
  · unfold ah_ty
    rw [if_pos (by omega)]
theorem ah_cell_o {D : va_G} {s : State} {h : ah_H} {H : Heap} {a ci N : Nat} {C : String} {T : u_T} {fs : List Value} (hP : ah_P D s h H) (hc : ci < 90 ∧ vwCl[ci]? = some (C, T, N)) (hcell : h.2.2 a = some (ci, fs)) : fs.length = N ∧ t_OB a (D.1 ci) N (D.2 ci) H (vp_V fs) := by
  have h1 := hP.2 a _ hcell
  rw [ah_ok_o (ah_low hc.1).1 (ah_low hc.1).2.1 (ah_low hc.1).2.2] at h1
  obtain ⟨r, e1, e2, e3⟩ := h1
  cases Option.some.inj (e1.symm.trans hc.2)
  exact ⟨e2, e3⟩
/-- a place in an array -/
def ah_ix (i : Int32) (j : Nat) : Prop := ¬ i < 0 ∧ i.toNatClampNeg = j
theorem ah_ix_nI {j : Nat} (h : j < 2 ^ 31) : ah_ix (nI j) j := ⟨nI_pos h, nI_clamp h⟩
section AhHeap
variable {M : ah_M} {d : Nat} {A : Nat → Prop} {h0 : ah_H} {o : Outcome} {h2 h : ah_H} {pc : Nat} {lv : List (Nat × Value)} {st : List Value}
theorem s_getfield {ci k index N a : Nat} {C : String} {T : u_T} {ty : Nat → FieldType} {v : Value} (hd : decode M.2.1 pc = .ok (.getfield index, 3)) (hc : ah_cl ci C T N ty) (hk : k < N) (hl : ah_fl M.1.cls index (T k)) (hs : ah_sel h a ci k = some v) (n : ah_At M d A h0 o h2 (pc + 3) lv (v :: st) h) : ah_At M d A h0 o h2 pc lv (.ref a :: st) h := by
  obtain ⟨fs, hcell, hv⟩ := ah_sel_some hs
  refine ⟨n.1, fun p l e R s m args below meth c D H locs cells slots ls X z0 r1 r2 r3 r4 hP hL hl' => ?_⟩
  have hK := X.2.2.2.2.2.2.2.2.1
  obtain ⟨e1, e2⟩ := ah_cell_o hP hc.1 hcell
  have hP1 : va_P D vwCl [(a, .inr (ci, fs))] H := by
    intro j q hq
    match j, hq with
    | 0, hq => cases hq; exact ⟨_, hc.1.2, e2⟩
    | j + 1, hq => simp at hq
  have kk := n.2 p l e R s m args below meth c D H locs cells slots ls X z0 r1 r2 r3 r4 hP hL hl'
  rcases hl with hl | ⟨host, hl⟩
  · exact va_get X.1 X.2.1 (fun w hw => hK.w hw) hc.2.1 X.2.2.2.2.2.2.1 hK.k hP1 0 rfl hc.1.2 k hk (hK.w hl) (fun _ z => z) hv hd kk
  · exact va_getN X.1 X.2.1 (fun w hw => hK.w hw) hc.2.1 X.2.2.2.2.2.2.1 hK.k hP1 0 rfl hc.1.2 k hk (hK.w hl) (fun _ z => z) hv hd kk
theorem ah_base {A : Nat → Prop} {locs : List Loc} {a i : Nat} (hL : ∀ q ∈ locs, A q.base) (ha : A a) : ∀ q ∈ locs ++ [⟨a, i⟩], A q.base := by
  intro q hq
  rcases List.mem_append.mp hq with z | z
  · exact hL q z
  · rw [List.mem_singleton.mp z]; exact ha
/-- what a store into a field needs of the machine -/
theorem ah_putf_W {p : Program} {l : Launch} {e : Env} {R : Room} {s : State} {m : MethodId} {args : Array Value} {below : List Frame} {meth : Method} {c : Code} {H : Heap} {locs : List Loc} {cells slots : Nat} {Q : State → Prop} {cc : ByteArray} {ls : Array Slot} {rest : List Value} {D : va_G} {h : ah_H} {a : Nat}
    (hexec : p.tables.exec = Jvm.exec) (hb : c.code = cc) {own : String} (hown : s.vm.findClass own = some m.cls) (hK : ah_K D s) (hP : ah_P D s h H) {ci k index N : Nat} {C : String} {T : u_T} {ty : Nat → FieldType} (hc : ah_cl ci C T N ty) (hk : k < N) (hl : ah_fl own index (T k)) (hfin : (T k).2.2.2 = false ∨ ((T k).2.2.2 = true ∧ meth.name = "<init>" ∧ (T k).1 = own ∧ Cond.fieldLink own index (T k).1 (T k).2.1 (T k).2.2.1 ∈ ah_W))
    {fs : List Value} (hcell : h.2.2 a = some (ci, fs)) {v : Value} (hfit : ah_fit (ty k) v = true) (hd : decode cc pc = .ok (.putfield index, 3))
    (kk : ∀ (H' : Heap) (i : Nat), ah_P D s (ah_sto h a k v) H' → W p l e R s m args below meth c H' (locs ++ [⟨a, i⟩]) cells slots Q (F0 m (pc + 3) ls rest)) : W p l e R s m args below meth c H locs cells slots Q (F0 m pc ls (v :: .ref a :: rest)) := by
  have hts : ∀ w ∈ ah_W, w.before args s = true := fun w hw => hK.w hw
  have hap := va_apart (own := own) hts hc.2.1 ty hc.2.2.1 hc.2.2.2 hK.k hc.1.2
  obtain ⟨e1, cell, q1, q2, q3, q4⟩ := ah_cell_o hP hc.1 hcell
  obtain ⟨hS, hfc, kC, hkC, hkind⟩ := hK.2 ci _ hc.1.2
  obtain ⟨cf, kf, fi, f, hi, hsl⟩ := hS k hk
  have hlay := hts _ (hc.2.1 _ (u_in_lay hk))
  have hst := (u_facts hfc hkC (u_lays hts hc.2.1 hk) hi).1
  obtain ⟨hn1, hf1⟩ := ah_fit_ok hfit
  have fin : ∀ H' : Heap, H'[a]? = some (cell.setSlot f.slot v) → H'.size = H.size → (∀ q, q ≠ a → H'[q]? = H[q]?) → W p l e R s m args below meth c H' (locs ++ [⟨a, f.slot⟩]) cells slots Q (F0 m (pc + 3) ls rest) := by
    intro H' g1 g2 g3
    refine kk H' _ (hP.sto g2 g3 (fun c0 hc0 => ?_))
    cases Option.some.inj (hc0.symm.trans hcell)
    rw [ah_ok_o (ah_low hc.1.1).1 (ah_low hc.1.1).2.1 (ah_low hc.1.1).2.2]
    rw [hsl] at g1
    exact ⟨_, hc.1.2, by rw [List.length_set]; exact e1, t_OB.to (V := updV (vp_V fs) k v) ⟨_, g1, q2, q3, t_set q4 hap hk v⟩ (fun j _ => vp_updV_set (by rw [e1]; exact hk) v j)⟩
  rcases hfin with hfin | ⟨hfin, hin2, hdecl, hl2⟩
  · unfold u_lay at hlay
    rw [if_neg (by rw [hfin]; decide)] at hlay
    have h6 := u_store hfc hkC hkind hlay hi (hc.2.2.1 k hk) hn1 hf1
    rcases hl with hl | ⟨host, hl⟩
    · exact W.putK hexec hb (f := f) ⟨hown, hts _ hl, ⟨_, _, _, hi⟩, hst⟩ (by rw [q2]; exact h6) q1 q3 (by rw [hsl]; exact k2_hasslot (q4 k hk)) rfl rfl hd fin
    · exact va_WputK hexec hb (f := f) hown (hts _ hl) hi hst (by rw [q2]; exact h6) q1 q3 (by rw [hsl]; exact k2_hasslot (q4 k hk)) rfl rfl hd fin
  · unfold u_lay at hlay
    rw [if_pos hfin] at hlay
    have hcf : m.cls = cf := by
      obtain ⟨_, _, c', _, _, _, -, -, hf', -, -, -, hown2, -⟩ := Cond.laysFinal_spec hlay
      have e1 : c' = cf := by have := hi.symm.trans hf'; simp at this; exact this.1.symm
      rw [hdecl] at hown2
      rw [← e1]; exact Option.some.inj (hown.symm.trans hown2)
    have h6 := u_fits hfc hkC hkind (Or.inr hlay) hi (hc.2.2.1 k hk) hn1 hf1
    exact W.putFinK hexec hb hown (hts _ hl2) hi hst hcf hin2 (by rw [q2]; exact h6) q1 q3 (by rw [hsl]; exact k2_hasslot (q4 k hk)) rfl rfl hd fin
theorem s_putfield {ci k index N a : Nat} {C : String} {T : u_T} {ty : Nat → FieldType} {v : Value} (hd : decode M.2.1 pc = .ok (.putfield index, 3)) (hc : ah_cl ci C T N ty) (hk : k < N) (hl : ah_fl M.1.cls index (T k)) (hfin : (T k).2.2.2 = false ∨ ((T k).2.2.2 = true ∧ M.1.name = "<init>" ∧ (T k).1 = M.1.cls ∧ Cond.fieldLink M.1.cls index (T k).1 (T k).2.1 (T k).2.2.1 ∈ ah_W)) (hA : A a) (hf : ah_fit (ty k) v = true) (hs : (ah_sel h a ci k).isSome = true) (n : ah_At M d A h0 o h2 (pc + 3) lv st (ah_sto h a k v)) : ah_At M d A h0 o h2 pc lv (v :: .ref a :: st) h := by
  obtain ⟨w, hw⟩ := ah_isSome hs
  obtain ⟨fs, hcell, -⟩ := ah_sel_some hw
  refine ⟨n.1, fun p l e R s m args below meth c D H locs cells slots ls X z0 r1 r2 r3 r4 hP hL hl' => ?_⟩
  refine ah_putf_W X.1 X.2.1 X.2.2.2.2.2.2.1 X.2.2.2.2.2.2.2.2.1 hP hc hk hl ?_ hcell hf hd (fun H' i hP' => n.2 p l e R s m args below meth c D H' _ cells slots ls X z0 r1 r2 r3 r4 hP' (ah_base hL hA) hl')
  rcases hfin with z | ⟨z1, z2, z3, z4⟩
  · exact Or.inl z
  · exact Or.inr ⟨z1, X.2.2.2.2.2.1.trans z2, z3, z4⟩
theorem s_new {ci index N : Nat} {C : String} {T : u_T} {ty : Nat → FieldType} {fs : List Value} (hd : decode M.2.1 pc = .ok (.new index, 3)) (hc : ah_cl ci C T N ty) (hl : Cond.classLink M.1.cls index C ∈ ah_W) (hi : Cond.instantiable C N ∈ ah_W) (hini : Cond.initialized C ∈ ah_W) (hlen : fs.length = N) (hfs : ∀ j, j < N → defaultValue (ty j) = vp_V fs j) (n : ah_At M d A h0 o h2 (pc + 3) lv (.ref h.1 :: st) (ah_new h (ci, fs))) : ah_At M d A h0 o h2 pc lv st h := by
  have hA1 : h.1 + 1 ≤ h2.1 ∧ h.2.1 + fs.length ≤ h2.2.1 := n.1
  refine ⟨⟨by omega, by omega⟩, fun p l e R s m args below meth c D H locs cells slots ls X z0 r1 r2 r3 r4 hP hL hl' => ?_⟩
  have hK := X.2.2.2.2.2.2.2.2.1
  have hKn := hK.2 ci _ hc.1.2
  refine W.newcK X.1 X.2.1 X.2.2.2.2.2.2.1 (hK.w hl) (hK.w hi) (hK.w hini) rfl hd (by omega) (by omega) hKn.2.1 rfl fun H1 kC hkC e1 z1 o1 => ?_
  have hz : H.size = h.1 := hP.1
  rw [hz] at e1 z1 o1 ⊢
  refine n.2 p l e R s m args below meth c D H1 locs (cells + 1) (slots + N) ls X z0 r1 r2 (by show h.1 + 1 = _; omega) (by show h.2.1 + fs.length = _; omega) (hP.new (by rw [hz]; exact z1) (fun q hq => o1 q (by rw [← hz]; exact hq)) ?_) hL hl'
  rw [ah_ok_o (ah_low hc.1.1).1 (ah_low hc.1.1).2.1 (ah_low hc.1.1).2.2]
  exact ⟨_, hc.1.2, hlen, (u_born (args := args) ty (fun w hw => hK.w hw) hc.2.1 hKn hkC e1 hc.2.2.1).to hfs⟩
theorem ah_sel_v {fs : List Value} {i : Nat} {v : Value} (h : fs[i]? = some v) : i < fs.length ∧ vp_V fs i = v := by
  refine ⟨(List.getElem?_eq_some_iff.mp h).1, ?_⟩
  simp [vp_V, h]
theorem ah_cell_a {D : va_G} {s : State} {h : ah_H} {H : Heap} {a t : Nat} {ty : FieldType} {fs : List Value} (hP : ah_P D s h H) (ht : ah_ex t = none ∧ (¬ t = 97 ∧ ¬ t = 99) ∧ ah_ty t = some ty) (hcell : h.2.2 a = some (t, fs)) : ∃ cA : ClassId, H[a]? = some (arrV cA fs.length (vp_V fs)) ∧ ArrOfT s cA ty ∧ va_RA s cA ty := by
  have h1 := hP.2 a _ hcell
  rw [ah_ok_a ht.1 ht.2.1 ht.2.2] at h1
  exact h1
theorem s_iaload {a j : Nat} {i : Int32} {v : Value} (hd : decode M.2.1 pc = .ok (.iaload, 1)) (hi : ah_ix i j) (hs : ah_sel h a 100 j = some v) (n : ah_At M d A h0 o h2 (pc + 1) lv (v :: st) h) : ah_At M d A h0 o h2 pc lv (.int i :: .ref a :: st) h := by
  obtain ⟨fs, hcell, hv⟩ := ah_sel_some hs
  obtain ⟨hi0, hij⟩ := hi
  subst hij
  obtain ⟨hlt, hvv⟩ := ah_sel_v hv
  refine ⟨n.1, fun p l e R s m args below meth c D H locs cells slots ls X z0 r1 r2 r3 r4 hP hL hl' => ?_⟩
  obtain ⟨cA, g1, g2, -⟩ := ah_cell_a (ty := .int) hP ⟨rfl, by decide, rfl⟩ hcell
  exact W.iald X.1 X.2.1 g1 (g2 _ _) (fun q => by cases q) (by show ¬ (i < 0 ∨ (arrV _ _ _).slots.size ≤ _); rw [arrV_size]; exact fun z => z.elim hi0 (fun z => by omega)) (by show (arrV _ _ _).slots[_]? = _; rw [arrV_read _ _ hlt, hvv]) rfl rfl hd (n.2 p l e R s m args below meth c D H locs cells slots ls X z0 r1 r2 r3 r4 hP hL hl')
theorem s_laload {a j : Nat} {i : Int32} {v : Value} (hd : decode M.2.1 pc = .ok (.laload, 1)) (hi : ah_ix i j) (hs : ah_sel h a 101 j = some v) (n : ah_At M d A h0 o h2 (pc + 1) lv (v :: st) h) : ah_At M d A h0 o h2 pc lv (.int i :: .ref a :: st) h := by
  obtain ⟨fs, hcell, hv⟩ := ah_sel_some hs
  obtain ⟨hi0, hij⟩ := hi
  subst hij
  obtain ⟨hlt, hvv⟩ := ah_sel_v hv
  refine ⟨n.1, fun p l e R s m args below meth c D H locs cells slots ls X z0 r1 r2 r3 r4 hP hL hl' => ?_⟩
  obtain ⟨cA, g1, g2, -⟩ := ah_cell_a (ty := .long) hP ⟨rfl, by decide, rfl⟩ hcell
  exact W.lald X.1 X.2.1 g1 (g2 _ _) (fun q => by cases q) (by show ¬ (i < 0 ∨ (arrV _ _ _).slots.size ≤ _); rw [arrV_size]; exact fun z => z.elim hi0 (fun z => by omega)) (by show (arrV _ _ _).slots[_]? = _; rw [arrV_read _ _ hlt, hvv]) rfl rfl hd (n.2 p l e R s m args below meth c D H locs cells slots ls X z0 r1 r2 r3 r4 hP hL hl')
theorem s_aaload {t a j : Nat} {ty : FieldType} {i : Int32} {v : Value} (ht : ah_ex t = none ∧ (¬ t = 97 ∧ ¬ t = 99) ∧ ah_ty t = some ty) (hty : ty.isReference = true) (hd : decode M.2.1 pc = .ok (.aaload, 1)) (hi : ah_ix i j) (hs : ah_sel h a t j = some v) (n : ah_At M d A h0 o h2 (pc + 1) lv (v :: st) h) : ah_At M d A h0 o h2 pc lv (.int i :: .ref a :: st) h := by
  obtain ⟨fs, hcell, hv⟩ := ah_sel_some hs
  obtain ⟨hi0, hij⟩ := hi
  subst hij
  obtain ⟨hlt, hvv⟩ := ah_sel_v hv
  refine ⟨n.1, fun p l e R s m args below meth c D H locs cells slots ls X z0 r1 r2 r3 r4 hP hL hl' => ?_⟩
  obtain ⟨cA, g1, g2, -⟩ := ah_cell_a hP ht hcell
  exact W.aald X.1 X.2.1 g1 (g2 _ _) hty (fun q => by cases q) (by show ¬ (i < 0 ∨ (arrV _ _ _).slots.size ≤ _); rw [arrV_size]; exact fun z => z.elim hi0 (fun z => by omega)) (by show (arrV _ _ _).slots[_]? = _; rw [arrV_read _ _ hlt, hvv]) rfl rfl hd (n.2 p l e R s m args below meth c D H locs cells slots ls X z0 r1 r2 r3 r4 hP hL hl')
/-- the script -/
theorem s_saload {a j : Nat} {i : Int32} {v : Value} (hd : decode M.2.1 pc = .ok (.iaload, 1)) (hi : ah_ix i j) (hs : ah_sel h a 99 j = some v) (n : ah_At M d A h0 o h2 (pc + 1) lv (v :: st) h) : ah_At M d A h0 o h2 pc lv (.int i :: .ref a :: st) h := by
  obtain ⟨fs, hcell, hv⟩ := ah_sel_some hs
  obtain ⟨hi0, hij⟩ := hi
  subst hij
  obtain ⟨hlt, hvv⟩ := ah_sel_v hv
  refine ⟨n.1, fun p l e R s m args below meth c D H locs cells slots ls X z0 r1 r2 r3 r4 hP hL hl' => ?_⟩
  have h1 := hP.2 a _ hcell
  rw [ah_ok_s] at h1
  obtain ⟨cell, g1, g2, g3, g4⟩ := h1
  have hz : cell.slots.size = fs.length := by rw [← g4]; simp
  refine W.iald X.1 X.2.1 g1 g2 g3 (by rw [hz]; exact fun z => z.elim hi0 (fun z => by omega)) (v := v) ?_ rfl rfl hd (n.2 p l e R s m args below meth c D H locs cells slots ls X z0 r1 r2 r3 r4 hP hL hl')
  rw [← Array.getElem?_toList, g4]
  exact hv
theorem s_slen {a k : Nat} {v : Int32} (hd : decode M.2.1 pc = .ok (.arraylength, 1)) (hs : ah_len h a 99 = some k) (hv : Int32.ofNat k = v) (n : ah_At M d A h0 o h2 (pc + 1) lv (.int v :: st) h) : ah_At M d A h0 o h2 pc lv (.ref a :: st) h := by
  obtain ⟨fs, hcell, hk⟩ := ah_len_some hs
  refine ⟨n.1, fun p l e R s m args below meth c D H locs cells slots ls X z0 r1 r2 r3 r4 hP hL hl' => ?_⟩
  have h1 := hP.2 a _ hcell
  rw [ah_ok_s] at h1
  obtain ⟨cell, g1, g2, g3, g4⟩ := h1
  have hz : cell.slots.size = k := by rw [← hk, ← g4]; simp
  exact W.alen X.1 X.2.1 g1 g2 (by rw [hz, ← hv]) rfl rfl hd (n.2 p l e R s m args below meth c D H locs cells slots ls X z0 r1 r2 r3 r4 hP hL hl')
theorem s_alen {t a k : Nat} {ty : FieldType} {v : Int32} (ht : ah_ex t = none ∧ (¬ t = 97 ∧ ¬ t = 99) ∧ ah_ty t = some ty) (hd : decode M.2.1 pc = .ok (.arraylength, 1)) (hs : ah_len h a t = some k) (hv : Int32.ofNat k = v) (n : ah_At M d A h0 o h2 (pc + 1) lv (.int v :: st) h) : ah_At M d A h0 o h2 pc lv (.ref a :: st) h := by
  obtain ⟨fs, hcell, hk⟩ := ah_len_some hs
  refine ⟨n.1, fun p l e R s m args below meth c D H locs cells slots ls X z0 r1 r2 r3 r4 hP hL hl' => ?_⟩
  obtain ⟨cA, g1, g2, -⟩ := ah_cell_a hP ht hcell
  exact W.alen X.1 X.2.1 g1 (g2 _ _) (by rw [arrV_size, hk, ← hv]) rfl rfl hd (n.2 p l e R s m args below meth c D H locs cells slots ls X z0 r1 r2 r3 r4 hP hL hl')
/-- the cell behind a store into an array -/
theorem ah_arr_sto {D : va_G} {s : State} {h : ah_H} {H H' : Heap} {a t i : Nat} {ty : FieldType} {fs : List Value} {v : Value} {cA : ClassId} (hP : ah_P D s h H) (ht : ah_ex t = none ∧ (¬ t = 97 ∧ ¬ t = 99) ∧ ah_ty t = some ty) (hcell : h.2.2 a = some (t, fs)) (hi : i < fs.length) (g2 : ArrOfT s cA ty) (g3 : va_RA s cA ty) (e1 : H'[a]? = some ((arrV cA fs.length (vp_V fs)).setSlot i v)) (e2 : H'.size = H.size) (e3 : ∀ q, q ≠ a → H'[q]? = H[q]?) : ah_P D s (ah_sto h a i v) H' := by
  refine hP.sto e2 e3 (fun c0 hc0 => ?_)
  cases Option.some.inj (hc0.symm.trans hcell)
  rw [ah_ok_a ht.1 ht.2.1 ht.2.2]
  refine ⟨cA, ?_, g2, g3⟩
  rw [e1, arrV_store, List.length_set]
  congr 2
  funext j
  exact vp_updV_set hi v j
theorem s_iastore {a j : Nat} {i : Int32} {x : Int32} (hd : decode M.2.1 pc = .ok (.iastore, 1)) (hA : A a) (hi : ah_ix i j) (hs : (ah_sel h a 100 j).isSome = true) (n : ah_At M d A h0 o h2 (pc + 1) lv st (ah_sto h a j (.int x))) : ah_At M d A h0 o h2 pc lv (.int x :: .int i :: .ref a :: st) h := by
  obtain ⟨w, hw⟩ := ah_isSome hs
  obtain ⟨fs, hcell, hv⟩ := ah_sel_some hw
  obtain ⟨hi0, hij⟩ := hi
  subst hij
  obtain ⟨hlt, -⟩ := ah_sel_v hv
  refine ⟨n.1, fun p l e R s m args below meth c D H locs cells slots ls X z0 r1 r2 r3 r4 hP hL hl' => ?_⟩
  obtain ⟨cA, g1, g2, g3⟩ := ah_cell_a (ty := .int) hP ⟨rfl, by decide, rfl⟩ hcell
  refine W.iast X.1 X.2.1 g1 (g2 _ _) (fun q => by cases q) (by show ¬ (i < 0 ∨ (arrV _ _ _).slots.size ≤ _); rw [arrV_size]; exact fun z => z.elim hi0 (fun z => by omega)) rfl rfl hd fun H1 e1 z oq => ?_
  exact n.2 p l e R s m args below meth c D H1 _ cells slots ls X z0 r1 r2 r3 r4 (ah_arr_sto hP ⟨rfl, by decide, rfl⟩ hcell hlt g2 g3 e1 z oq) (ah_base hL hA) hl'
theorem s_lastore {a j : Nat} {i : Int32} {x : Int64} (hd : decode M.2.1 pc = .ok (.lastore, 1)) (hA : A a) (hi : ah_ix i j) (hs : (ah_sel h a 101 j).isSome = true) (n : ah_At M d A h0 o h2 (pc + 1) lv st (ah_sto h a j (.long x))) : ah_At M d A h0 o h2 pc lv (.long x :: .int i :: .ref a :: st) h := by
  obtain ⟨w, hw⟩ := ah_isSome hs
  obtain ⟨fs, hcell, hv⟩ := ah_sel_some hw
  obtain ⟨hi0, hij⟩ := hi
  subst hij
  obtain ⟨hlt, -⟩ := ah_sel_v hv
  refine ⟨n.1, fun p l e R s m args below meth c D H locs cells slots ls X z0 r1 r2 r3 r4 hP hL hl' => ?_⟩
  obtain ⟨cA, g1, g2, g3⟩ := ah_cell_a (ty := .long) hP ⟨rfl, by decide, rfl⟩ hcell
  refine W.last X.1 X.2.1 g1 (g2 _ _) (fun q => by cases q) (by show ¬ (i < 0 ∨ (arrV _ _ _).slots.size ≤ _); rw [arrV_size]; exact fun z => z.elim hi0 (fun z => by omega)) rfl rfl hd fun H1 e1 z oq => ?_
  exact n.2 p l e R s m args below meth c D H1 _ cells slots ls X z0 r1 r2 r3 r4 (ah_arr_sto hP ⟨rfl, by decide, rfl⟩ hcell hlt g2 g3 e1 z oq) (ah_base hL hA) hl'
theorem s_zaload {a j : Nat} {i : Int32} {v : Value} (hd : decode M.2.1 pc = .ok (.baload, 1)) (hi : ah_ix i j) (hs : ah_sel h a 103 j = some v) (n : ah_At M d A h0 o h2 (pc + 1) lv (v :: st) h) : ah_At M d A h0 o h2 pc lv (.int i :: .ref a :: st) h := by
  obtain ⟨fs, hcell, hv⟩ := ah_sel_some hs
  obtain ⟨hi0, hij⟩ := hi
  subst hij
  obtain ⟨hlt, hvv⟩ := ah_sel_v hv
  refine ⟨n.1, fun p l e R s m args below meth c D H locs cells slots ls X z0 r1 r2 r3 r4 hP hL hl' => ?_⟩
  obtain ⟨cA, g1, g2, -⟩ := ah_cell_a (ty := .boolean) hP ⟨rfl, by decide, rfl⟩ hcell
  exact W.zald X.1 X.2.1 g1 (g2 _ _) (fun q => by cases q) (by show ¬ (i < 0 ∨ (arrV _ _ _).slots.size ≤ _); rw [arrV_size]; exact fun z => z.elim hi0 (fun z => by omega)) (by show (arrV _ _ _).slots[_]? = _; rw [arrV_read _ _ hlt, hvv]) rfl rfl hd (n.2 p l e R s m args below meth c D H locs cells slots ls X z0 r1 r2 r3 r4 hP hL hl')
theorem s_zastore {a j : Nat} {i : Int32} {x : Int32} (hd : decode M.2.1 pc = .ok (.bastore, 1)) (hA : A a) (hi : ah_ix i j) (hs : (ah_sel h a 103 j).isSome = true) (hf : ah_fit .boolean (.int x) = true) (n : ah_At M d A h0 o h2 (pc + 1) lv st (ah_sto h a j (.int x))) : ah_At M d A h0 o h2 pc lv (.int x :: .int i :: .ref a :: st) h := by
  obtain ⟨w, hw⟩ := ah_isSome hs
  obtain ⟨fs, hcell, hv⟩ := ah_sel_some hw
  obtain ⟨hi0, hij⟩ := hi
  subst hij
  obtain ⟨hlt, -⟩ := ah_sel_v hv
  refine ⟨n.1, fun p l e R s m args below meth c D H locs cells slots ls X z0 r1 r2 r3 r4 hP hL hl' => ?_⟩
  obtain ⟨cA, g1, g2, g3⟩ := ah_cell_a (ty := .boolean) hP ⟨rfl, by decide, rfl⟩ hcell
  refine W.zast X.1 X.2.1 g1 (g2 _ _) (fun q => by cases q) (by show ¬ (i < 0 ∨ (arrV _ _ _).slots.size ≤ _); rw [arrV_size]; exact fun z => z.elim hi0 (fun z => by omega)) rfl rfl hd fun H1 e1 z oq => ?_
  rw [(ah_fit_ok hf).1] at e1
  exact n.2 p l e R s m args below meth c D H1 _ cells slots ls X z0 r1 r2 r3 r4 (ah_arr_sto hP ⟨rfl, by decide, rfl⟩ hcell hlt g2 g3 e1 z oq) (ah_base hL hA) hl'
theorem s_aastore {ci N a j x : Nat} {C : String} {T : u_T} {ty : Nat → FieldType} {i : Int32} (hc : ah_cl ci C T N ty) (ht : ah_ex (110 + ci) = none ∧ (¬ (110 + ci) = 97 ∧ ¬ (110 + ci) = 99) ∧ ah_ty (110 + ci) = some (.object C)) (hd : decode M.2.1 pc = .ok (.aastore, 1)) (hA : A a) (hi : ah_ix i j) (hs : (ah_sel h a (110 + ci) j).isSome = true) (hx : (ah_len h x ci).isSome = true) (n : ah_At M d A h0 o h2 (pc + 1) lv st (ah_sto h a j (.ref x))) : ah_At M d A h0 o h2 pc lv (.ref x :: .int i :: .ref a :: st) h := by
  obtain ⟨w, hw⟩ := ah_isSome hs
  obtain ⟨fs, hcell, hv⟩ := ah_sel_some hw
  obtain ⟨hi0, hij⟩ := hi
  subst hij
  obtain ⟨hlt, -⟩ := ah_sel_v hv
  obtain ⟨nx, hnx⟩ := ah_isSome hx
  obtain ⟨fx, hcx, -⟩ := ah_len_some hnx
  refine ⟨n.1, fun p l e R s m args below meth c D H locs cells slots ls X z0 r1 r2 r3 r4 hP hL hl' => ?_⟩
  obtain ⟨cA, g1, g2, g3⟩ := ah_cell_a hP ht hcell
  obtain ⟨kA, comp, k1, k2, k3, k4⟩ := id g3
  obtain ⟨-, cellV, q1, q2, q3, -⟩ := ah_cell_o hP hc.1 hcx
  have hcls := (X.2.2.2.2.2.2.2.2.1.2 ci _ hc.1.2).2
  obtain ⟨kE, hkE, -⟩ := Vm.findClass_spec k3
  obtain ⟨hfc, kC, hkC, hkind⟩ := id hcls
  have hcomp : comp = D.1 ci := Option.some.inj (k3.symm.trans hfc)
  refine W.aast X.1 X.2.1 g1 (fun q z => by cases z) (fun z => by cases z) k1 k2 rfl hkE ⟨hi0, by rw [arrV_size]; exact hlt⟩ q1 (fun q z => by rw [q3] at z; cases z) (by rw [q2]; exact hkC) (by rw [q2, hcomp]; exact va_assign (s := s) hcls) rfl rfl hd fun H1 e1 z oq => ?_
  exact n.2 p l e R s m args below meth c D H1 _ cells slots ls X z0 r1 r2 r3 r4 (ah_arr_sto hP ht hcell hlt g2 g3 e1 z oq) (ah_base hL hA) hl'
/-- a new array of numbers -/
theorem s_newarray {t : Nat} {at_ : ArrayType} {ty : FieldType} {i : Int32} {j : Nat} (ht : ah_ex t = none ∧ (¬ t = 97 ∧ ¬ t = 99) ∧ ah_ty t = some ty) (hty : newarray.typeOf at_ = ty) (hw : Cond.arrayClass ty ∈ ah_W) (hd : decode M.2.1 pc = .ok (.newarray at_, 2)) (hi : ah_ix i j) (hb : j * componentBytes ty ≤ 536870912) (n : ah_At M d A h0 o h2 (pc + 2) lv (.ref h.1 :: st) (ah_new h (t, List.replicate j (defaultValue ty)))) : ah_At M d A h0 o h2 pc lv (.int i :: st) h := by
  obtain ⟨hi0, hij⟩ := hi
  subst hty
  have hA1 : h.1 + 1 ≤ h2.1 ∧ h.2.1 + (List.replicate j (defaultValue (newarray.typeOf at_))).length ≤ h2.2.1 := n.1
  rw [List.length_replicate] at hA1
  refine ⟨⟨by omega, by omega⟩, fun p l e R s m args below meth c D H locs cells slots ls X z0 r1 r2 r3 r4 hP hL hl' => ?_⟩
  have hK := X.2.2.2.2.2.2.2.2.1
  refine va_newaK X.1 X.2.1 (hK.w hw) rfl hd rfl hi0 hij hb (by omega) (by omega) hP.1 fun H1 cA e1 z1 o1 hAr hNm => ?_
  have hz : H.size = h.1 := hP.1
  refine n.2 p l e R s m args below meth c D H1 locs (cells + 1) (slots + j) ls X z0 r1 r2 (by show h.1 + 1 = _; omega) (by show h.2.1 + (List.replicate j _).length = _; rw [List.length_replicate]; omega) (hP.new (by rw [hz]; exact z1) (fun q hq => o1 q (by rw [← hz]; exact hq)) ?_) hL hl'
  rw [ah_ok_a ht.1 ht.2.1 ht.2.2]
  refine ⟨cA, ?_, hAr, by cases at_ <;> exact hNm⟩
  rw [e1, List.length_replicate]
  congr 1
  unfold arrV
  congr 1
  apply Array.ext
  · simp
  · intro q hq1 hq2
    simp only [Array.getElem_ofFn, vp_V]
    have hq : q < j := by simpa using hq1
    simp [hq]
/-- a new array of objects -/
theorem s_anewarray {ci index N : Nat} {C : String} {T : u_T} {ty : Nat → FieldType} {i : Int32} {j : Nat} (hc : ah_cl ci C T N ty) (ht : ah_ex (110 + ci) = none ∧ (¬ (110 + ci) = 97 ∧ ¬ (110 + ci) = 99) ∧ ah_ty (110 + ci) = some (.object C)) (hl : Cond.classLink M.1.cls index C ∈ ah_W) (hv : Cond.arrayOver (.object C) ∈ ah_W) (hd : decode M.2.1 pc = .ok (.anewarray index, 3)) (hi : ah_ix i j) (hb : j * 4 ≤ 536870912) (n : ah_At M d A h0 o h2 (pc + 3) lv (.ref h.1 :: st) (ah_new h (110 + ci, List.replicate j .null))) : ah_At M d A h0 o h2 pc lv (.int i :: st) h := by
  obtain ⟨hi0, hij⟩ := hi
  have hA1 : h.1 + 1 ≤ h2.1 ∧ h.2.1 + (List.replicate j Value.null).length ≤ h2.2.1 := n.1
  rw [List.length_replicate] at hA1
  refine ⟨⟨by omega, by omega⟩, fun p l e R s m args below meth c D H locs cells slots ls X z0 r1 r2 r3 r4 hP hL hl' => ?_⟩
  have hK := X.2.2.2.2.2.2.2.2.1
  have hz : H.size = h.1 := hP.1
  subst hij
  refine W.anew X.1 X.2.1 X.2.2.2.2.2.2.1 (hK.w hl) (hK.w hv) rfl hd rfl hi0 hb (by omega) (by omega) fun cA kA comp f1 f2 f3 f4 => ?_
  generalize hH1 : H.push ({ cls := cA, slots := Array.replicate i.toNatClampNeg .null, vm := .none } : Cell) = H1
  rw [hz]
  have o1 : ∀ q : Nat, q < H.size → H1[q]? = H[q]? := fun q hq => by rw [← hH1, Array.getElem?_push, if_neg (Nat.ne_of_lt hq)]
  refine n.2 p l e R s m args below meth c D H1 locs (cells + 1) (slots + i.toNatClampNeg) ls X z0 r1 r2 (by show h.1 + 1 = _; omega) (by show h.2.1 + (List.replicate _ _).length = _; rw [List.length_replicate]; omega) (hP.new (by rw [← hH1]; simp) o1 ?_) hL hl'
  rw [ah_ok_a ht.1 ht.2.1 ht.2.2]
  refine ⟨cA, ?_, fun n z => ⟨fun k h => (by cases h), kA, f2, comp, f3⟩, kA, comp, f2, f3, f4, f1⟩
  rw [← hH1, ← hz, List.length_replicate]
  simp only [Array.getElem?_push_size]
  congr 1
  unfold arrV
  congr 1
  apply Array.ext
  · simp
  · intro q hq1 hq2
    simp only [Array.getElem_ofFn, vp_V]
    have hq : q < i.toNatClampNeg := by simpa using hq1
    simp [hq]
end AhHeap
end
section
/-! RETURNS, CONTRACTS, CALLS -/
section AhEnd
variable {M : ah_M} {d : Nat} {A : Nat → Prop} {h0 h : ah_H} {pc : Nat} {lv : List (Nat × Value)}
theorem e_iret {v : Int32} {ty : FieldType} (hd : decode M.2.1 pc = .ok (.ireturn, 1)) (hr : M.2.2.2.1 = some ty) (hn : narrow ty (.int v) = .int v) : ah_At M d A h0 (.returned (some (.int v))) h pc lv [.int v] h := by
  refine ⟨⟨Nat.le_refl _, Nat.le_refl _⟩, fun p l e R s m args below meth c D H locs cells slots ls X z0 r1 r2 r3 r4 hP hL hl => ?_⟩
  rw [show h.1 - h0.1 = cells by omega, show h.2.1 - h0.2.1 = slots by omega]
  obtain ⟨hexec, hb, hml, hrt, hlocks, -⟩ := X
  rw [hr] at hrt
  intro T hT Y
  obtain ⟨fs, hret, hrun, hended, hW, hframe⟩ := Y.leave (v := some (.int v)) (fun z => by rw [hrt] at z; cases z)
  have hmeth' : T.vm.method? m = some meth := Y.method'
  refine ⟨T.setFrames fs, ?_, hrun, hended, ?_, locs, ⟨hW, hframe⟩, hL⟩
  · jvm_step Y.here [Y.here.top, hexec, hb, hd, hmeth', hrt, hn]
    (try refine ⟨rfl, ?_⟩); (try refine ⟨rfl, ?_⟩)
    first | (intro acts; rw [hret _ acts rfl rfl rfl]) | rw [hret _ _ rfl rfl rfl]
    exact Steps.refl _
  · have hh : (T.setFrames fs).heap = H := hT
    rw [hh]
    exact hP.moved hW.alike
theorem e_lret {v : Int64} (hd : decode M.2.1 pc = .ok (.lreturn, 1)) (hr : M.2.2.2.1 = some .long) : ah_At M d A h0 (.returned (some (.long v))) h pc lv [.long v] h := by
  refine ⟨⟨Nat.le_refl _, Nat.le_refl _⟩, fun p l e R s m args below meth c D H locs cells slots ls X z0 r1 r2 r3 r4 hP hL hl => ?_⟩
  rw [show h.1 - h0.1 = cells by omega, show h.2.1 - h0.2.1 = slots by omega]
  obtain ⟨hexec, hb, hml, hrt, hlocks, -⟩ := X
  rw [hr] at hrt
  intro T hT Y
  obtain ⟨fs, hret, hrun, hended, hW, hframe⟩ := Y.leave (v := some (.long v)) (fun z => by rw [hrt] at z; cases z)
  have hmeth' : T.vm.method? m = some meth := Y.method'
  refine ⟨T.setFrames fs, ?_, hrun, hended, ?_, locs, ⟨hW, hframe⟩, hL⟩
  · jvm_step Y.here [Y.here.top, hexec, hb, hd, hmeth', hrt, narrow]
    (try refine ⟨rfl, ?_⟩); (try refine ⟨rfl, ?_⟩)
    first | (intro acts; rw [hret _ acts rfl rfl rfl]) | rw [hret _ _ rfl rfl rfl]
    exact Steps.refl _
  · have hh : (T.setFrames fs).heap = H := hT
    rw [hh]
    exact hP.moved hW.alike
theorem e_vret (hd : decode M.2.1 pc = .ok (.return_, 1)) (hr : M.2.2.2.1 = none) : ah_At M d A h0 (.returned none) h pc lv [] h := by
  refine ⟨⟨Nat.le_refl _, Nat.le_refl _⟩, fun p l e R s m args below meth c D H locs cells slots ls X z0 r1 r2 r3 r4 hP hL hl => ?_⟩
  rw [show h.1 - h0.1 = cells by omega, show h.2.1 - h0.2.1 = slots by omega]
  obtain ⟨hexec, hb, hml, hrt, hlocks, -⟩ := X
  rw [hr] at hrt
  intro T hT Y
  obtain ⟨fs, hret, hrun, hended, hW, hframe⟩ := Y.leave (v := none) (fun _ => rfl)
  have hmeth' : T.vm.method? m = some meth := Y.method'
  refine ⟨T.setFrames fs, ?_, hrun, hended, ?_, locs, ⟨hW, hframe⟩, hL⟩
  · jvm_step Y.here [Y.here.top, hexec, hb, hd, hmeth', hrt]
    (try refine ⟨rfl, ?_⟩); (try refine ⟨rfl, ?_⟩)
    first | (intro acts; rw [hret _ acts rfl rfl rfl]) | rw [hret _ _ rfl rfl rfl]
    exact Steps.refl _
  · have hh : (T.setFrames fs).heap = H := hT
    rw [hh]
    exact hP.moved hW.alike
end AhEnd
def ah_Rm (d : Nat) (h h2 : ah_H) : Room := { frames := d, cells := h2.1 - h.1, slots := h2.2.1 - h.2.1, locals := 64 * d }
/-- THE CONTRACT of a call -/
def ah_Ev (M : ah_M) (d : Nat) (A : Nat → Prop) (av : List Value) (h : ah_H) (o : Outcome) (h2 : ah_H) : Prop :=
  (h.1 ≤ h2.1 ∧ h.2.1 ≤ h2.2.1) ∧ ∀ (l : Launch) (D : va_G), l.stackTraces = false → MetFree l M.1 (headSpec [ah_cw M] (ah_Rm d h h2)) (fun v U => v = av.toArray ∧ ah_K D U ∧ ah_P D U h U.heap) (fun _ _ _ _ _ => True)
    (fun _ st o' t => o' = o ∧ ah_P D t h2 t.heap ∧ ∃ L, ah_Fr st t L (h2.1 - h.1) (h2.2.1 - h.2.1) ∧ ∀ q ∈ L, A q.base)
theorem ah_cw_spec {M : ah_M} {args : Array Value} {s : State} (h : (ah_cw M).before args s = true) : ∃ mk meth c, s.methodNamed? M.1 = some mk ∧ s.vm.method? mk = some meth ∧ meth.code = some c ∧ c.code = M.2.1 ∧ c.maxLocals = M.2.2.1 ∧
    c.exceptionTable.toList.map (fun x => (x.startPc, x.endPc, x.handlerPc, x.catchType)) = M.2.2.2.2 ∧ meth.sig.returnType = M.2.2.2.1 ∧ meth.locks = false ∧ parseMethodDescriptor M.1.desc = some meth.sig := by
  obtain ⟨y, b, n, r, hh⟩ := M
  cases hh with
  | nil =>
    have h : (Cond.code y b n r).before args s = true := h
    obtain ⟨mk, hn⟩ := Cond.code_named h
    obtain ⟨meth, c, h1, h2, h3, h4, h5, h6, h7, h8⟩ := Cond.code_spec hn h
    have h7' : c.exceptionTable.toList = [] := by simpa using h7
    exact ⟨mk, meth, c, hn, h1, h2, h3, h4, by rw [h7']; rfl, h5, h6, h8⟩
  | cons x t =>
    have h : (Cond.codeWith y b n r (x :: t)).before args s = true := h
    obtain ⟨mk, meth, c, hn, h1, h2, h3, h4, h5, h6, h7, h8⟩ := Cond.codeWith_spec h
    exact ⟨mk, meth, c, hn, h1, h2, h3, h4, h5, h6, h7, h8⟩
theorem ah_Ev.of {M : ah_M} {d : Nat} {A : Nat → Prop} {av : List Value} {h h2 : ah_H} {o : Outcome} (hy : plainName M.1.cls = true) (hlen : (lg_sl av).length ≤ M.2.2.1) (hA : ah_At M d A h o h2 0 (lv_args 0 av) [] h) : ah_Ev M d A av h o h2 := by
  refine ⟨hA.1, fun l D htr => ?_⟩
  refine MetFree.of_bodyS (code := M.2.1) (maxLocals := M.2.2.1) (ret := M.2.2.2.1) hy ?_ ?_
  · intro args s m hpre hn
    obtain ⟨mk, meth, c, g0, g1, g2, g3, g4, g5, g6, g7, g8⟩ := ah_cw_spec (atoms_spec (ws := [ah_cw M]) hpre _ List.mem_cons_self)
    cases Option.some.inj (hn.symm.trans g0)
    exact ⟨meth, c, g1, g2, g3, g4, g6, g7⟩
  · intro p e s m args below meth c s₁ B hml hP _
    obtain ⟨rfl, hK, hP⟩ := hP
    have hh0 : s₁.heap = s.heap := by rw [B.state]; rfl
    obtain ⟨mk, meth', c', g0, g1, g2, g3, g4, g5, g6, g7, g8⟩ := ah_cw_spec (atoms_spec (ws := [ah_cw M]) B.pre _ List.mem_cons_self)
    cases Option.some.inj (B.named.symm.trans g0)
    cases Option.some.inj (B.method.symm.trans g1)
    have hcode := (Stand.of_body B).code
    cases Option.some.inj (hcode.symm.trans g2)
    have hz : s.heap.size = h.1 := hP.1
    have hle := hA.1
    have hl := lv_entry av (n := M.2.2.1) hlen
    obtain ⟨t, a1, b1, b2, b3, L, b4, b5⟩ := hA.2 p l e (headSpec [ah_cw M] (ah_Rm d h h2)).room s m av.toArray below meth c D s.heap [] 0 0 _
      ⟨B.exec, B.bytes, hml, B.returns, B.notSynchronized, (name_of_methodNamed B.named B.method).1, findClass_of_methodNamed B.named, g5, hK, Nat.le_refl _, Nat.le_refl _, htr⟩ hP
      (by show h2.1 ≤ h.1 + (h2.1 - h.1); omega) (by show h2.2.1 ≤ h.2.1 + (h2.2.1 - h.2.1); omega) (by omega) (by omega) hP (fun q hq => by cases hq) hl s₁ hh0 (Stand.of_body B)
    refine ⟨t, o, ?_, b1, b2, rfl, b3, L, b4, b5⟩
    rw [lg_entry_eq]
    exact a1
/-- the callee comes back, or throws -/
theorem ah_back {M' : ah_M} {d' : Nat} {A' : Nat → Prop} {av : List Value} {h h' : ah_H} {o' : Outcome} (hE : ah_Ev M' d' A' av h o' h')
    {p : Program} {l : Launch} {e : Env} {R : Room} {s : State} {m : MethodId} {args : Array Value} {below : List Frame} {meth : Method} {c : Code} {T : State} {locs : List Loc} {cells slots : Nat} {D : va_G}
    (X : Stand p l e R s m args below meth c T locs cells slots) (htr : l.stackTraces = false) (hK : ah_K D s) (hP : ah_P D s h T.heap) (hcw : ah_cw M' ∈ ah_W) (hini : Cond.initialized M'.1.cls ∈ ah_W)
    {g : JFrame} {ig : Instr} {len : Nat} {mk : MethodId} (hg : g.method = m) (hsize : g.locals.size = c.maxLocals) (hdg : decode c.code g.pc = .ok (ig, len)) (hw : 2 * g.monitorRoom + (g.stack.map fun v => v.category).sum ≤ 8) (hn : T.methodNamed? M'.1 = some mk)
    (hf : d' + 1 ≤ R.frames) (hlo : 8 + (M'.2.2.1 + 11) + 64 * d' ≤ R.locals) (hc : cells + (h'.1 - h.1) ≤ R.cells) (hs : slots + (h'.2.1 - h.2.1) ≤ R.slots) :
    ∃ (B : State) (L : List Loc), Stand p l e R s m args below meth c B (locs ++ L) (cells + (h'.1 - h.1)) (slots + (h'.2.1 - h.2.1)) ∧ ah_P D s h' B.heap ∧ (∀ q ∈ L, A' q.base) ∧
      (match o' with
        | .returned v => Steps p.tables e below (doInvoke e (T.setTop g) [] mk av.toArray).1 (B.setTop { g with pc := g.pc + len, stack := v.toList ++ g.stack })
        | .threw a => Steps p.tables e below (doInvoke e (T.setTop g) [] mk av.toArray).1 ((B.setTop g).pushFrame (.throwing a))) := by
  have hKT : ah_K D T := hK.moved X.warmed
  have h2 : (ah_cw M').before av.toArray T = true := hKT.w hcw
  have h3 : (Cond.initialized M'.1.cls).before av.toArray T = true := hKT.w hini
  obtain ⟨mk', methY, cY, hn', hmY, hcY, -, hlY, -⟩ := ah_cw_spec h2
  cases Option.some.inj (hn.symm.trans hn')
  obtain ⟨kY, hkY, -⟩ := className_of_methodNamed hn
  have hinitY : kY.init = .initialized := Cond.initialized_spec (findClass_of_methodNamed hn) hkY h3
  have hat : At T g.method c below := by rw [hg]; exact X.here
  have happ : (headSpec [ah_cw M'] (ah_Rm d' h h')).appliesLoose M'.1 e.platform (T.calling g mk av.toArray) = true :=
    Spec.appliesLoose_calling (g := g) hat hdg hn hkY hinitY
      (X.room_calling (g := g) (R' := (headSpec [ah_cw M'] (ah_Rm d' h h')).room) hsize hmY hcY hf (by rw [hlY]; show _ + 64 * d' ≤ _; omega) hc hs) (atoms_intro fun w hw => by rw [List.mem_singleton.mp hw]; exact h2)
  obtain ⟨mid, hmid⟩ := hat.above
  have hfr : (T.setTop g).frames = (.java g :: mid) ++ below := by rw [State.frames_setTop' g hat.top, hmid]; rfl
  have hPre : (fun (v : Array Value) (U : State) => v = av.toArray ∧ ah_K D U ∧ ah_P D U h U.heap) av.toArray (T.calling g mk av.toArray) :=
    ⟨rfl, hKT.moved (State.WarmedH.refl T), hP.moved X.warmed.alike⟩
  obtain ⟨o, s₂, hsteps, -, hend, ho, hP2, L, ⟨hW₂, hfr2⟩, hL⟩ := Steps.callFree (hE.2 l D htr) p X.admits X.cas X.clock (acts := []) hfr happ hPre trivial
  subst ho
  rw [State.frames_setTop' g hat.top] at hend
  obtain ⟨e2, q2, q3, q4, q5, q6⟩ := id hfr2
  have e3 : s₂ = ({ (T.calling g mk av.toArray).setFrames s₂.frames with heap := s₂.heap, slotsUsed := s₂.slotsUsed } : State).setVm s₂.vm := by
    have : s₂ = ({ s₂ with vm := (T.calling g mk av.toArray).vm } : State).setVm s₂.vm := rfl
    rw [show ({ s₂ with vm := (T.calling g mk av.toArray).vm } : State) = _ from e2] at this
    exact this
  have hW' : T.WarmedH s₂.vm := hW₂
  obtain ⟨g₀, hg0⟩ := Option.isSome_iff_exists.mp hat.top
  obtain ⟨r, hr⟩ := State.topJava?_eq_some.mp hg0
  have hsame : T.sameButNew ({ T with heap := s₂.heap, slotsUsed := s₂.slotsUsed } : State) L (h'.1 - h.1) (h'.2.1 - h.2.1) := by
    refine ⟨?_, q2, q3, q4, q5, q6⟩
    obtain ⟨t, ht, -⟩ := State.frames_cons hr
    show ({ T with heap := s₂.heap, slotsUsed := s₂.slotsUsed } : State) = { T.setFrames T.frames with heap := s₂.heap, slotsUsed := s₂.slotsUsed }
    rw [State.setFrames_self ht]
  refine ⟨({ T with heap := s₂.heap, slotsUsed := s₂.slotsUsed } : State).setVm s₂.vm, L,
    ⟨X.admits, X.cas, X.clock, X.frames, X.room, X.hears, X.method, X.code, (X.here.setHeapUsed s₂.heap s₂.slotsUsed).setVm hW'.alike, X.tail, State.WarmedH.trans X.warmed hW', X.limits, X.bytes, X.same.trans (hsame.setVm s.vm)⟩,
    hP2.moved (State.WarmedH.trans X.warmed hW').alike.symm, hL, ?_⟩
  have hr' : (({ T with heap := s₂.heap, slotsUsed := s₂.slotsUsed } : State).setVm s₂.vm).frames = .java g₀ :: r := hr
  cases o with
  | returned v =>
    obtain ⟨c₂, i₂, len₂, hc₂, hd₂, hf₂⟩ := hend
    have hcc : c₂ = c := by
      have h1 : s₂.code? g.method = T.code? g.method := by
        rw [State.code?_eq, State.code?_eq, hW'.alike.method?]
      exact Option.some.inj (hc₂.symm.trans (h1.trans hat.code))
    subst hcc
    have hlen : len₂ = len := by rw [hdg] at hd₂; cases hd₂; rfl
    subst hlen
    have hs₂ : s₂ = (({ T with heap := s₂.heap, slotsUsed := s₂.slotsUsed } : State).setVm s₂.vm).setTop { g with pc := g.pc + len₂, stack := v.toList ++ g.stack } := by
      refine e3.trans ?_
      rw [hf₂, State.calling_eq hat.top, State.setFrames_setFrames, State.setTop_of_frames _ hr', hr]
      rfl
    show Steps p.tables e below _ ((({ T with heap := s₂.heap, slotsUsed := s₂.slotsUsed } : State).setVm s₂.vm).setTop { g with pc := g.pc + len₂, stack := v.toList ++ g.stack })
    rw [← hs₂]
    exact hsteps
  | threw a =>
    have hf₂ : s₂.frames = .throwing a :: .java g :: T.frames.tail := hend
    have hs₂ : s₂ = ((({ T with heap := s₂.heap, slotsUsed := s₂.slotsUsed } : State).setVm s₂.vm).setTop g).pushFrame (.throwing a) := by
      refine e3.trans ?_
      rw [hf₂, State.calling_eq hat.top, State.setFrames_setFrames, State.pushFrame, State.frames_setTop _ hr', State.setTop_of_frames _ hr', State.setFrames_setFrames, hr]
      rfl
    show Steps p.tables e below _ (((({ T with heap := s₂.heap, slotsUsed := s₂.slotsUsed } : State).setVm s₂.vm).setTop g).pushFrame (.throwing a))
    rw [← hs₂]
    exact hsteps
/-- an exception is on its way at this place -/
def ah_thr (M : ah_M) (d : Nat) (A : Nat → Prop) (h0 : ah_H) (o : Outcome) (h2 : ah_H) (pc : Nat) (lv : List (Nat × Value)) (h : ah_H) (a : Nat) : Prop :=
  (h.1 ≤ h2.1 ∧ h.2.1 ≤ h2.2.1) ∧
  ∀ (p : Program) (l : Launch) (e : Env) (R : Room) (s : State) (m : MethodId) (args : Array Value) (below : List Frame) (meth : Method) (c : Code) (D : va_G) (locs : List Loc) (cells slots : Nat) (ls : Array Slot) (st : List Value) (T : State),
    ah_X M d p l R s m meth c D → ah_P D s h0 s.heap → h2.1 ≤ h0.1 + R.cells → h2.2.1 ≤ h0.2.1 + R.slots → h.1 = h0.1 + cells → h.2.1 = h0.2.1 + slots →
    ah_P D s h T.heap → (∀ q ∈ locs, A q.base) → lv_has ls M.2.2.1 lv → Stand p l e R s m args below meth c T locs cells slots →
    ∃ t, Steps p.tables e below ((T.setTop (F0 m pc ls st)).pushFrame (.throwing a)) t ∧ ah_Q below D s A o h2 (h2.1 - h0.1) (h2.2.1 - h0.2.1) t
def ah_aft (M : ah_M) (d : Nat) (A : Nat → Prop) (h0 : ah_H) (o : Outcome) (h2 : ah_H) (pc : Nat) (lv : List (Nat × Value)) (st : List Value) (h : ah_H) : Outcome → Prop
  | .returned v => ah_At M d A h0 o h2 (pc + 3) lv (v.toList ++ st) h
  | .threw a => ah_thr M d A h0 o h2 pc lv h a
theorem ah_aft.le {M : ah_M} {d : Nat} {A : Nat → Prop} {h0 : ah_H} {o : Outcome} {h2 : ah_H} {pc : Nat} {lv : List (Nat × Value)} {st : List Value} {h : ah_H} {o' : Outcome} (hk : ah_aft M d A h0 o h2 pc lv st h o') : h.1 ≤ h2.1 ∧ h.2.1 ≤ h2.2.1 := by
  cases o' with
  | returned v => exact hk.1
  | threw a => exact hk.1
/-- from the machine's invocation to what follows -/
theorem ah_into {M M' : ah_M} {d d' : Nat} {A A' : Nat → Prop} {av : List Value} {h0 h h' h2 : ah_H} {o o' : Outcome} {pc : Nat} {lv : List (Nat × Value)} {st : List Value} (hE : ah_Ev M' d' A' av h o' h') (hdd : d' + 1 ≤ d) (hA : ∀ q, A' q → A q) (hst : (st.map fun v => v.category).sum ≤ 8) (hL0 : M'.2.2.1 ≤ 45) (hk : ah_aft M d A h0 o h2 pc lv st h' o') (hcw : ah_cw M' ∈ ah_W) (hini : Cond.initialized M'.1.cls ∈ ah_W)
    {p : Program} {l : Launch} {e : Env} {R : Room} {s : State} {m : MethodId} {args : Array Value} {below : List Frame} {meth : Method} {c : Code} {D : va_G} {H : Heap} {locs : List Loc} {cells slots : Nat} {ls : Array Slot}
    (X : ah_X M d p l R s m meth c D) (z0 : ah_P D s h0 s.heap) (r1 : h2.1 ≤ h0.1 + R.cells) (r2 : h2.2.1 ≤ h0.2.1 + R.slots) (r3 : h.1 = h0.1 + cells) (r4 : h.2.1 = h0.2.1 + slots) (hP : ah_P D s h H) (hL : ∀ q ∈ locs, A q.base) (hl : lv_has ls M.2.2.1 lv)
    {T : State} {vm₁ : Vm} {ig : Instr} {mk : MethodId} (hT : T.heap = H) (Y : Stand p l e R s m args below meth c (T.setVm vm₁) locs cells slots) (hdg : decode M.2.1 pc = .ok (ig, 3)) (hn : s.methodNamed? M'.1 = some mk) :
    ∃ t, Steps p.tables e below (doInvoke e ((T.setVm vm₁).setTop (F0 m pc ls st)) [] mk av.toArray).1 t ∧ ah_Q below D s A o h2 (h2.1 - h0.1) (h2.2.1 - h0.2.1) t := by
  have hle := hk.le
  have hle' := hE.1
  have hfr := X.2.2.2.2.2.2.2.2.2.1
  have hlo := X.2.2.2.2.2.2.2.2.2.2.1
  have hw : 2 * (F0 m pc ls st).monitorRoom + ((F0 m pc ls st).stack.map fun v => v.category).sum ≤ 8 := lv_room (rest := st) hst
  obtain ⟨B, L, Y', hP', hL', hs⟩ := ah_back (D := D) (g := F0 m pc ls st) hE Y X.2.2.2.2.2.2.2.2.2.2.2 X.2.2.2.2.2.2.2.2.1 (by rw [show (T.setVm vm₁).heap = H from hT]; exact hP) hcw hini rfl (hl.1.trans X.2.2.1.symm) (by rw [X.2.1]; exact hdg) hw (Y.named hn) (by omega) (by omega) (by omega) (by omega)
  have hLL : ∀ q ∈ locs ++ L, A q.base := by
    intro q hq
    rcases List.mem_append.mp hq with z | z
    · exact hL q z
    · exact hA _ (hL' q z)
  cases o' with
  | returned v =>
    obtain ⟨t, a1, a2⟩ := hk.2 p l e R s m args below meth c D B.heap (locs ++ L) (cells + (h'.1 - h.1)) (slots + (h'.2.1 - h.2.1)) ls X z0 r1 r2 (by omega) (by omega) hP' hLL hl B rfl Y'
    exact ⟨t, hs.trans a1, a2⟩
  | threw a =>
    obtain ⟨t, a1, a2⟩ := hk.2 p l e R s m args below meth c D (locs ++ L) (cells + (h'.1 - h.1)) (slots + (h'.2.1 - h.2.1)) ls st B X z0 r1 r2 (by omega) (by omega) hP' hLL hl Y'
    exact ⟨t, hs.trans a1, a2⟩
/-- a method's link: the class's own, or a nest mate's -/
def ah_ml (own : String) (index : Nat) (y : MethodName) : Prop := Cond.methodLink own index y ∈ ah_W ∨ ∃ host, Cond.methodLinkNest own index y host ∈ ah_W
/-- what every call asks of the tables -/
def ah_cl3 (own : String) (index : Nat) (M' : ah_M) (n : Nat) : Prop := ah_ml own index M'.1 ∧ ah_cw M' ∈ ah_W ∧ Cond.initialized M'.1.cls ∈ ah_W ∧ (M'.1.cls ≠ "java/lang/invoke/MethodHandle" ∧ M'.1.cls ≠ "java/lang/invoke/VarHandle") ∧ (parseMethodDescriptor M'.1.desc).map (fun d => d.parameters.length) = some n ∧ M'.2.2.1 ≤ 45
theorem ah_plen {desc : String} {n : Nat} (h : (parseMethodDescriptor desc).map (fun d => d.parameters.length) = some n) {sig : MethodDescriptor} (hs : parseMethodDescriptor desc = some sig) : n = sig.parameters.length := by
  rw [hs] at h
  exact (Option.some.inj h).symm
theorem ah_callS {M M' : ah_M} {pc index n : Nat} (hd : decode M.2.1 pc = .ok (.invokestatic index, 3)) (hs : ah_cl3 M.1.cls index M' n) (hst0 : Cond.static M'.1 ∈ ah_W) {d d' : Nat} {A A' : Nat → Prop} {av : List Value} {h0 h h' h2 : ah_H} {o o' : Outcome} {lv : List (Nat × Value)} {st : List Value}
    (hE : ah_Ev M' d' A' av h o' h') (hdd : d' + 1 ≤ d) (hA : ∀ q, A' q → A q) (hn : av.length = n) (hst : (st.map fun v => v.category).sum ≤ 8) (hk : ah_aft M d A h0 o h2 pc lv st h' o') : ah_At M d A h0 o h2 pc lv (av.reverse ++ st) h := by
  obtain ⟨hl, hcw, hini, hy, hpl, hmx⟩ := hs
  have hle := hk.le
  have hle' := hE.1
  refine ⟨⟨by omega, by omega⟩, fun p l e R s m args below meth c D H locs cells slots ls X z0 r1 r2 r3 r4 hP hL hl' => ?_⟩
  have hK := X.2.2.2.2.2.2.2.2.1
  intro T hT Y
  obtain ⟨mk, methM, cM, hnamed, hmethM, -, -, -, -, -, -, hsigM⟩ := ah_cw_spec (hK.w hcw (args := args))
  have hstatic : methM.isStatic = true := Cond.static_spec hnamed hmethM (hK.w hst0 (args := args))
  obtain ⟨kP, hkP, -⟩ := className_of_methodNamed hnamed
  have hinitP : kP.init = .initialized := Cond.initialized_spec (findClass_of_methodNamed hnamed) hkP (hK.w hini (args := args))
  have hlen : av.length = methM.sig.parameters.length := hn.trans (ah_plen hpl hsigM)
  have key : ∃ vm₁, Stand p l e R s m args below meth c (T.setVm vm₁) locs cells slots ∧ ∀ target, (∀ acts, Steps p.tables e below (doInvoke e ((T.setVm vm₁).setTop (F0 m pc ls st)) acts mk av.toArray).1 target) → Steps p.tables e below (T.setTop (F0 m pc ls (av.reverse ++ st))) target := by
    rcases hl with hl | ⟨host, hl⟩
    · exact Y.invokestatic X.1 X.2.2.2.2.2.2.1 (hK.w hl) hnamed hmethM hstatic hkP hinitP hy (g := F0 m pc ls (av.reverse ++ st)) rfl (argsL := av) (rest := st) hlen rfl (by rw [X.2.1]; exact hd)
    · exact Y.invokestaticNest X.1 X.2.2.2.2.2.2.1 (hK.w hl) hnamed hmethM hstatic hkP hinitP hy (g := F0 m pc ls (av.reverse ++ st)) rfl (argsL := av) (rest := st) hlen rfl (by rw [X.2.1]; exact hd)
  obtain ⟨vm₁, Y₁, hstep⟩ := key
  obtain ⟨t, a1, a2⟩ := ah_into hE hdd hA hst hmx hk hcw hini X z0 r1 r2 r3 r4 hP hL hl' hT Y₁ hd hnamed
  exact ⟨t, hstep t (fun acts => by rw [doInvoke_state]; exact a1), a2⟩
theorem ah_callI {M M' : ah_M} {pc index n : Nat} (hd : decode M.2.1 pc = .ok (.invokespecial index, 3)) (hs : ah_cl3 M.1.cls index M' n) (hi0 : Cond.instanceMethod M'.1 ∈ ah_W) (hy1 : M'.1.name = "<init>") (hnh : M'.2.2.2 = (none, [])) {d d' : Nat} {A A' : Nat → Prop} {b : Nat} {av : List Value} {h0 h h' h2 : ah_H} {o o' : Outcome} {lv : List (Nat × Value)} {st : List Value}
    (hE : ah_Ev M' d' A' (.ref b :: av) h o' h') (hdd : d' + 1 ≤ d) (hA : ∀ q, A' q → A q) (hn : av.length = n) (hst : (st.map fun v => v.category).sum ≤ 8) (hk : ah_aft M d A h0 o h2 pc lv st h' o') : ah_At M d A h0 o h2 pc lv (av.reverse ++ .ref b :: st) h := by
  obtain ⟨hl, hcw, hini, hy, hpl, hmx⟩ := hs
  have hle := hk.le
  have hle' := hE.1
  refine ⟨⟨by omega, by omega⟩, fun p l e R s m args below meth c D H locs cells slots ls X z0 r1 r2 r3 r4 hP hL hl' => ?_⟩
  have hK := X.2.2.2.2.2.2.2.2.1
  intro T hT Y
  have hpl0 : e.platform.magicAccessors = ({} : Platform).magicAccessors := by rw [Y.admits.platform]
  have hcode : (Cond.code M'.1 M'.2.1 M'.2.2.1 none).before args s = true := by
    have h9 := hK.w hcw (args := args)
    unfold ah_cw at h9
    rw [hnh] at h9
    exact h9
  have hlen : ∀ sig, parseMethodDescriptor M'.1.desc = some sig → av.length = sig.parameters.length := fun sig hs => hn.trans (ah_plen hpl hs)
  have hat : At T m c below := Y.here
  have key : ∃ mk vm₁, s.methodNamed? M'.1 = some mk ∧ s.WarmedH vm₁ ∧ ∀ target, (∀ acts, Steps p.tables e below (doInvoke e ((T.setVm vm₁).setTop (F0 m pc ls st)) acts mk (Value.ref b :: av).toArray).1 target) → Steps p.tables e below (T.setTop (F0 m pc ls (av.reverse ++ .ref b :: st))) target := by
    rcases hl with hl | ⟨host, hl⟩
    · obtain ⟨mk, methM, cM, kP, vm₁, hnamed, hmethM, hcodeM, -, hlocalsM, -, hkP, -, hW₁, hstep₁⟩ := Steps.initColdArgs (e := e) hat X.1 Y.warmed hpl0 X.2.2.2.2.2.2.1 hy1 hy (hK.w hl (args := args)) (hK.w hi0) hcode (f := F0 m pc ls (av.reverse ++ .ref b :: st)) rfl hlen rfl (by rw [X.2.1]; exact hd)
      exact ⟨mk, vm₁, hnamed, hW₁, hstep₁⟩
    · obtain ⟨mk, methM, cM, kP, vm₁, hnamed, hmethM, hcodeM, -, hlocalsM, -, hkP, -, hW₁, hstep₁⟩ := Steps.initColdArgsNest (e := e) hat X.1 Y.warmed hpl0 X.2.2.2.2.2.2.1 hy1 hy (hK.w hl (args := args)) (hK.w hi0) hcode (f := F0 m pc ls (av.reverse ++ .ref b :: st)) rfl hlen rfl (by rw [X.2.1]; exact hd)
      exact ⟨mk, vm₁, hnamed, hW₁, hstep₁⟩
  obtain ⟨mk, vm₁, hnamed, hW₁, hstep⟩ := key
  obtain ⟨t, a1, a2⟩ := ah_into hE hdd hA hst hmx hk hcw hini X z0 r1 r2 r3 r4 hP hL hl' hT (Y.noted hW₁) hd hnamed
  exact ⟨t, hstep t (fun acts => by rw [doInvoke_state]; exact a1), a2⟩
theorem ah_callV {M M' : ah_M} {pc index n ci : Nat} (hd : decode M.2.1 pc = .ok (.invokevirtual index, 3)) (hs : ah_cl3 M.1.cls index M' n) (hi0 : Cond.instanceMethod M'.1 ∈ ah_W) (hse : Cond.selects M'.1.cls M'.1 M'.1 ∈ ah_W) {N : Nat} {T0 : u_T} {ty : Nat → FieldType} (hcl : ah_cl ci M'.1.cls T0 N ty) {d d' : Nat} {A A' : Nat → Prop} {b : Nat} {av : List Value} {h0 h h' h2 : ah_H} {o o' : Outcome} {lv : List (Nat × Value)} {st : List Value}
    (hb : (ah_len h b ci).isSome = true) (hE : ah_Ev M' d' A' (.ref b :: av) h o' h') (hdd : d' + 1 ≤ d) (hA : ∀ q, A' q → A q) (hn : av.length = n) (hst : (st.map fun v => v.category).sum ≤ 8) (hk : ah_aft M d A h0 o h2 pc lv st h' o') : ah_At M d A h0 o h2 pc lv (av.reverse ++ .ref b :: st) h := by
  obtain ⟨hl, hcw, hini, hy, hpl, hmx⟩ := hs
  have hle := hk.le
  have hle' := hE.1
  refine ⟨⟨by omega, by omega⟩, fun p l e R s m args below meth c D H locs cells slots ls X z0 r1 r2 r3 r4 hP hL hl' => ?_⟩
  have hK := X.2.2.2.2.2.2.2.2.1
  obtain ⟨nb, hnb⟩ := ah_isSome hb
  obtain ⟨fs, hcell, -⟩ := ah_len_some hnb
  obtain ⟨-, cellB, q1, q2, q3, -⟩ := ah_cell_o hP hcl.1 hcell
  have hfc := (hK.2 ci _ hcl.1.2).2.1
  intro T hT Y
  obtain ⟨mk, methM, hnamed, hmethM, hstM, habM⟩ := Cond.instanceMethod_spec (hK.w hi0 (args := args))
  obtain ⟨mk', methM', cM, hnamed', hmethM', -, -, -, -, -, -, hsigM⟩ := ah_cw_spec (hK.w hcw (args := args))
  cases Option.some.inj (hnamed.symm.trans hnamed')
  cases Option.some.inj (hmethM.symm.trans hmethM')
  obtain ⟨c2, rr2, m2, k1, k2, k3, k4, kP, hkP, hkPi⟩ := Cond.selects_spec (hK.w hse (args := args))
  cases Option.some.inj (hfc.symm.trans k1)
  cases Option.some.inj ((State.methodFound?_of_named hnamed hy).symm.trans k2)
  cases Option.some.inj (hnamed.symm.trans k3)
  have hselP : selectMethod e.platform s.vm cellB.cls mk = .method mk := by rw [Launch.admits_selectMethod Y.admits, q2]; exact k4
  have hlen : av.length = methM.sig.parameters.length := hn.trans (ah_plen hpl hsigM)
  have key : ∃ vm₁, Stand p l e R s m args below meth c (T.setVm vm₁) locs cells slots ∧ ∀ target, (∀ acts, Steps p.tables e below (doInvoke e ((T.setVm vm₁).setTop (F0 m pc ls st)) acts mk (Value.ref b :: av).toArray).1 target) → Steps p.tables e below (T.setTop (F0 m pc ls (av.reverse ++ .ref b :: st))) target := by
    rcases hl with hl | ⟨host, hl⟩
    · exact Y.invokevirtual X.1 X.2.2.2.2.2.2.1 (hK.w hl) hnamed hmethM hstM hkP hkPi hy (a := b) (cell := cellB) (by rw [hT]; exact q1) (fun z w => by rw [q3] at w; cases w) hselP hmethM habM hkP hkPi (g := F0 m pc ls (av.reverse ++ .ref b :: st)) rfl (argsL := av) (rest := st) hlen rfl (by rw [X.2.1]; exact hd)
    · exact Y.invokevirtualNest X.1 X.2.2.2.2.2.2.1 (hK.w hl) hnamed hmethM hstM hkP hkPi hy (a := b) (cell := cellB) (by rw [hT]; exact q1) (fun z w => by rw [q3] at w; cases w) hselP hmethM habM hkP hkPi (g := F0 m pc ls (av.reverse ++ .ref b :: st)) rfl (argsL := av) (rest := st) hlen rfl (by rw [X.2.1]; exact hd)
  obtain ⟨vm₁, Y₁, hstep⟩ := key
  obtain ⟨t, a1, a2⟩ := ah_into hE hdd hA hst hmx hk hcw hini X z0 r1 r2 r3 r4 hP hL hl' hT Y₁ hd hnamed
  exact ⟨t, hstep t (fun acts => by rw [doInvoke_state]; exact a1), a2⟩
/-- no handler here: the method throws what it was thrown -/
theorem ah_thr_out {M : ah_M} {d : Nat} {A : Nat → Prop} {h0 h : ah_H} {pc a : Nat} {lv : List (Nat × Value)} (hx : ∀ x ∈ M.2.2.2.2, ¬ (x.1 ≤ pc ∧ pc < x.2.1)) : ah_thr M d A h0 (.threw a) h pc lv h a := by
  refine ⟨⟨Nat.le_refl _, Nat.le_refl _⟩, fun p l e R s m args below meth c D locs cells slots ls st T X z0 r1 r2 r3 r4 hP hL hl Y => ?_⟩
  rw [show h.1 - h0.1 = cells by omega, show h.2.1 - h0.2.1 = slots by omega]
  obtain ⟨hexec, hb, hml, hrt, hlocks, hnm, hown, hex, -⟩ := X
  obtain ⟨s1, s2, s3, s4, s5⟩ := Y.leaveThrown a (g := F0 m pc ls st) rfl rfl rfl (fun x hx' => by
    have h1 : ¬ (x.startPc ≤ pc ∧ pc < x.endPc) := hx (x.startPc, x.endPc, x.handlerPc, x.catchType) (by rw [← hex]; exact List.mem_map.mpr ⟨x, hx', rfl⟩)
    simp only [covers]
    rw [Bool.and_eq_false_iff]
    by_cases z : x.startPc ≤ pc
    · exact Or.inr (by simp; omega)
    · exact Or.inl (by simp; omega))
  exact ⟨_, s1, s2, s3, hP.moved s4.alike, locs, ⟨s4, s5⟩, hL⟩
theorem ah_oi : Cond.instanceMethod Lib.objectInit ∈ ah_W := ah_in (by decide +kernel) rfl
theorem ah_oc : Cond.code Lib.objectInit ⟨#[0xb1]⟩ 1 none ∈ ah_W := ah_in (by decide +kernel) rfl
/-- Object.<init> -/
theorem s_objinit {M : ah_M} {d : Nat} {A : Nat → Prop} {h0 : ah_H} {o : Outcome} {h2 h : ah_H} {pc index a : Nat} {lv : List (Nat × Value)} {st : List Value} (hd : decode M.2.1 pc = .ok (.invokespecial index, 3)) (hl : Cond.methodLink M.1.cls index Lib.objectInit ∈ ah_W) (hd1 : 1 ≤ d) (n : ah_At M d A h0 o h2 (pc + 3) lv st h) (hst : (st.map fun v => v.category).sum ≤ 8 := by exact Nat.le_of_ble_eq_true rfl) : ah_At M d A h0 o h2 pc lv (.ref a :: st) h := by
  refine ⟨n.1, fun p l e R s m args below meth c D H locs cells slots ls X z0 r1 r2 r3 r4 hP hL hl' => ?_⟩
  have hK := X.2.2.2.2.2.2.2.2.1
  have hfr := X.2.2.2.2.2.2.2.2.2.1
  have hlo := X.2.2.2.2.2.2.2.2.2.2.1
  have hw : 2 * (F0 m pc ls (.ref a :: st)).monitorRoom + (st.map fun v => v.category).sum ≤ 8 := lv_room (rest := .ref a :: st) hst
  exact W.objInit X.1 X.2.1 X.2.2.2.2.2.2.1 (hK.w hl) (hK.w ah_oi) (hK.w ah_oc) rfl (hl'.1.trans X.2.2.1.symm) rfl hd (by omega) (by omega) (n.2 p l e R s m args below meth c D H locs cells slots ls X z0 r1 r2 r3 r4 hP hL hl')
end
section
/-! ROWS of single instructions with a story of their own -/
section AhSpec
variable {M : ah_M} {d : Nat} {A : Nat → Prop} {h0 : ah_H} {o : Outcome} {h2 h h1 : ah_H} {pc : Nat} {lv : List (Nat × Value)} {st : List Value}
theorem s_putfieldE {ci k index N a : Nat} {C : String} {T : u_T} {ty : Nat → FieldType} {v : Value} (hd : decode M.2.1 pc = .ok (.putfield index, 3)) (hc : ah_cl ci C T N ty) (hk : k < N) (hl : ah_fl M.1.cls index (T k)) (hfin : (T k).2.2.2 = false ∨ ((T k).2.2.2 = true ∧ M.1.name = "<init>" ∧ (T k).1 = M.1.cls ∧ Cond.fieldLink M.1.cls index (T k).1 (T k).2.1 (T k).2.2.1 ∈ ah_W)) (hA : A a) (hf : ah_fit (ty k) v = true) (hs : (ah_sel h a ci k).isSome = true) (hh : ah_sto h a k v = h1) (n : ah_At M d A h0 o h2 (pc + 3) lv st h1) : ah_At M d A h0 o h2 pc lv (v :: .ref a :: st) h := by
  subst hh
  exact s_putfield hd hc hk hl hfin hA hf hs n
theorem s_newE {ci index N : Nat} {C : String} {T : u_T} {ty : Nat → FieldType} {fs : List Value} (hd : decode M.2.1 pc = .ok (.new index, 3)) (hc : ah_cl ci C T N ty) (hl : Cond.classLink M.1.cls index C ∈ ah_W) (hi : Cond.instantiable C N ∈ ah_W) (hini : Cond.initialized C ∈ ah_W) (hlen : fs.length = N) (hfs : ∀ j, j < N → defaultValue (ty j) = vp_V fs j) (hh : ah_new h (ci, fs) = h1) (n : ah_At M d A h0 o h2 (pc + 3) lv (.ref h.1 :: st) h1) : ah_At M d A h0 o h2 pc lv st h := by
  subst hh
  exact s_new hd hc hl hi hini hlen hfs n
theorem s_newarrayE {t : Nat} {at_ : ArrayType} {ty : FieldType} {i : Int32} {j : Nat} (ht : ah_ex t = none ∧ (¬ t = 97 ∧ ¬ t = 99) ∧ ah_ty t = some ty) (hty : newarray.typeOf at_ = ty) (hw : Cond.arrayClass ty ∈ ah_W) (hd : decode M.2.1 pc = .ok (.newarray at_, 2)) (hi : ah_ix i j) (hb : j * componentBytes ty ≤ 536870912) (hh : ah_new h (t, List.replicate j (defaultValue ty)) = h1) (n : ah_At M d A h0 o h2 (pc + 2) lv (.ref h.1 :: st) h1) : ah_At M d A h0 o h2 pc lv (.int i :: st) h := by
  subst hh
  exact s_newarray ht hty hw hd hi hb n
theorem s_anewarrayE {ci index N : Nat} {C : String} {T : u_T} {ty : Nat → FieldType} {i : Int32} {j : Nat} (hc : ah_cl ci C T N ty) (ht : ah_ex (110 + ci) = none ∧ (¬ (110 + ci) = 97 ∧ ¬ (110 + ci) = 99) ∧ ah_ty (110 + ci) = some (.object C)) (hl : Cond.classLink M.1.cls index C ∈ ah_W) (hv : Cond.arrayOver (.object C) ∈ ah_W) (hd : decode M.2.1 pc = .ok (.anewarray index, 3)) (hi : ah_ix i j) (hb : j * 4 ≤ 536870912) (hh : ah_new h (110 + ci, List.replicate j .null) = h1) (n : ah_At M d A h0 o h2 (pc + 3) lv (.ref h.1 :: st) h1) : ah_At M d A h0 o h2 pc lv (.int i :: st) h := by
  subst hh
  exact s_anewarray hc ht hl hv hd hi hb n
theorem s_aastoreE {ci N a j x : Nat} {C : String} {T : u_T} {ty : Nat → FieldType} {i : Int32} (hc : ah_cl ci C T N ty) (ht : ah_ex (110 + ci) = none ∧ (¬ (110 + ci) = 97 ∧ ¬ (110 + ci) = 99) ∧ ah_ty (110 + ci) = some (.object C)) (hd : decode M.2.1 pc = .ok (.aastore, 1)) (hA : A a) (hi : ah_ix i j) (hs : (ah_sel h a (110 + ci) j).isSome = true) (hx : (ah_len h x ci).isSome = true) (hh : ah_sto h a j (.ref x) = h1) (n : ah_At M d A h0 o h2 (pc + 1) lv st h1) : ah_At M d A h0 o h2 pc lv (.ref x :: .int i :: .ref a :: st) h := by
  subst hh
  exact s_aastore hc ht hd hA hi hs hx n
def ah_max (x y : Int32) : Int32 := if x < y then y else x
theorem ah_x0 : Cond.static Lib.Math.max.name ∈ ah_W := ah_in (by decide +kernel) rfl
theorem ah_x1 : Cond.initialized "java/lang/Math" ∈ ah_W := ah_in (by decide +kernel) rfl
theorem ah_x2 : Cond.code Lib.Math.max.name Lib.Math.max.code 2 (some .int) ∈ ah_W := ah_in (by decide +kernel) rfl
theorem s_max {index : Nat} {x y : Int32} (hd : decode M.2.1 pc = .ok (.invokestatic index, 3)) (hl : Cond.methodLink M.1.cls index Lib.Math.max.name ∈ ah_W) (hd1 : 1 ≤ d) (n : ah_At M d A h0 o h2 (pc + 3) lv (.int (ah_max x y) :: st) h) (hst : (st.map fun v => v.category).sum ≤ 8 := by exact Nat.le_of_ble_eq_true rfl) : ah_At M d A h0 o h2 pc lv (.int y :: .int x :: st) h := by
  refine ⟨n.1, fun p l e R s m args below meth c D H locs cells slots ls X z0 r1 r2 r3 r4 hP hL hl' => ?_⟩
  have hK := X.2.2.2.2.2.2.2.2.1
  have hfr := X.2.2.2.2.2.2.2.2.2.1
  have hlo := X.2.2.2.2.2.2.2.2.2.2.1
  have hn := n.1
  exact va_mmax X.1 X.2.1 (X.2.2.1.trans hl'.1.symm) X.2.2.2.2.2.2.1 (hK.w hl) (hK.w ah_x0) (hK.w ah_x1) (hK.w ah_x2) (by omega) (by omega) (by omega) (by omega) hd (n.2 p l e R s m args below meth c D H locs cells slots ls X z0 r1 r2 r3 r4 hP hL hl')
/-- new int[a][b] -/
def ah_mna (h : ah_H) (a b : Nat) : ah_H := (h.1 + 1 + a, h.2.1 + a + a * b, fun q => if q = h.1 then some (102, (List.range a).map fun i => .ref (h.1 + 1 + i)) else if h.1 < q ∧ q < h.1 + 1 + a then some (100, List.replicate b (.int 0)) else h.2.2 q)
theorem ah_x3 : Cond.arrayOver (.array .int) ∈ ah_W := ah_in (by decide +kernel) rfl
theorem ah_x4 : Cond.arrayClass .int ∈ ah_W := ah_in (by decide +kernel) rfl
/-- System.arraycopy of eight ints, from the first place to the first -/
def ah_copy8 (h : ah_H) (a b : Nat) : ah_H := (h.1, h.2.1, fun q => if q = b then h.2.2 a else h.2.2 q)
theorem ah_y0 : Cond.native arraycopyName ∈ ah_W := ah_in (by decide +kernel) rfl
theorem ah_y1 : Cond.static arraycopyName ∈ ah_W := ah_in (by decide +kernel) rfl
theorem ah_y2 : Cond.initialized "java/lang/System" ∈ ah_W := ah_in (by decide +kernel) rfl
theorem arrV_congr {c : ClassId} {n : Nat} {f g : Nat → Value} (h : ∀ j, j < n → f j = g j) : arrV c n f = arrV c n g := by
  unfold arrV
  congr 1
  apply Array.ext
  · simp
  · intro q hq1 hq2
    simp only [Array.getElem_ofFn]
    exact h q (by simpa using hq1)
def ah_i8 (f : Nat → Int32) : List Value := (List.range 8).map fun j => .int (f j)
theorem ah_i8_len (f : Nat → Int32) : (ah_i8 f).length = 8 := by simp [ah_i8]
theorem ah_i8_V (f : Nat → Int32) {j : Nat} (hj : j < 8) : vp_V (ah_i8 f) j = .int (f j) := by
  simp [vp_V, ah_i8, hj]
theorem s_copy8 {index a b : Nat} {f r : Nat → Int32} (hd : decode M.2.1 pc = .ok (.invokestatic index, 3)) (hl : Cond.methodLink M.1.cls index arraycopyName ∈ ah_W) (hd1 : 2 ≤ d) (hA : A b) (hab : a ≠ b) (g0 : h.2.2 a = some (100, ah_i8 f)) (g1 : h.2.2 b = some (100, ah_i8 r)) (n : ah_At M d A h0 o h2 (pc + 3) lv st (ah_copy8 h a b)) (hst : (st.map fun v => v.category).sum ≤ 8 := by exact Nat.le_of_ble_eq_true rfl) : ah_At M d A h0 o h2 pc lv (.int 8 :: .int 0 :: .ref b :: .int 0 :: .ref a :: st) h := by
  refine ⟨n.1, fun p l e R s m args below meth c D H locs cells slots ls X z0 r1 r2 r3 r4 hP hL hl' => ?_⟩
  have hK := X.2.2.2.2.2.2.2.2.1
  have hfr := X.2.2.2.2.2.2.2.2.2.1
  have hlo := X.2.2.2.2.2.2.2.2.2.2.1
  obtain ⟨c0, e0, a0, -⟩ := ah_cell_a (ty := .int) hP ⟨rfl, by decide, rfl⟩ g0
  obtain ⟨c1, e1, a1, a1'⟩ := ah_cell_a (ty := .int) hP ⟨rfl, by decide, rfl⟩ g1
  rw [ah_i8_len, arrV_congr (fun j hj => ah_i8_V f hj)] at e0
  rw [ah_i8_len, arrV_congr (fun j hj => ah_i8_V r hj)] at e1
  intro T hT Y
  obtain ⟨-, k0, hk0, cm0, hkk0⟩ := a0 8 (fun j => .int (f j))
  obtain ⟨-, k1, hk1, cm1, hkk1⟩ := a1 8 (fun j => .int (r j))
  obtain ⟨vm', X', step⟩ := Y.arraycopy X.1 X.2.2.2.2.2.2.1 (hK.w hl) (hK.w ah_y0) (hK.w ah_y1) (hK.w ah_y2) (src := a) (dst := b) (cs := arrV c0 8 (fun j => .int (f j))) (cd := arrV c1 8 (fun j => .int (r j))) (srcPos := 0) (destPos := 0) (n := 8) (by rw [hT]; exact e0) (by rw [hT]; exact e1)
    (fun _ h => by cases h) (fun _ h => by cases h) (fun h => by cases h) (fun h => by cases h) hk0 hk1 hkk0 hkk1 (by simp [refKind]) (by decide) (by decide) (by decide)
    (by rw [arrV_size]; decide) (by rw [arrV_size]; decide)
    (fun vm₁ _ i hi => by
      have hi8 : i < 8 := hi
      have e : (arrV c0 8 (fun j => Value.int (f j))).slots.getD ((0 : Int32).toNatClampNeg + i) .null = .int (f i) := by
        rw [show (0 : Int32).toNatClampNeg + i = i from by simp, Array.getD_eq_getD_getElem?, arrV_read _ _ hi8]
        rfl
      exact ⟨by rw [e]; rfl, by rw [e]; exact trivial⟩)
    (g := F0 m pc ls (.int 8 :: .int 0 :: .ref b :: .int 0 :: .ref a :: st)) rfl (hl'.1.trans X.2.2.1.symm) (rest := st) rfl (by rw [X.2.1]; exact hd) (by omega) (by
      have hw : nativeFrameWords "java/lang/System" "arraycopy" 5 + 11 ≤ 100 := by decide +kernel
      show 2 * 0 + _ + _ ≤ _
      omega)
  have ec : copied (arrV c0 8 (fun j => .int (f j))) (arrV c1 8 (fun j => .int (r j))) 0 0 8 = arrV c1 8 (fun j => .int (va_cpy f r 0 0 8 j)) := va_copied (fun z => .int z) c0 c1 f r (by decide)
  rw [ec, arrV_congr (g := fun j => .int (f j)) (fun j hj => by rw [pk_cpy_in (by omega) (by omega)]; simp)] at X' step
  have hlt : b < H.size := (Array.getElem?_eq_some_iff.mp e1).1
  have hheap : ((T.setVm vm').setCell b (arrV c1 8 (fun j => .int (f j)))).heap = H.setIfInBounds b (arrV c1 8 (fun j => .int (f j))) := by rw [← hT]; rfl
  have oq : ∀ q : Nat, q ≠ b → (H.setIfInBounds b (arrV c1 8 (fun j => Value.int (f j))))[q]? = H[q]? := fun q hq => by simp [Array.getElem?_setIfInBounds, Ne.symm hq]
  have hP' : ah_P D s (ah_copy8 h a b) (H.setIfInBounds b (arrV c1 8 (fun j => .int (f j)))) := by
    refine ⟨by simp; exact hP.1, fun q cq hq => ?_⟩
    by_cases hqb : q = b
    · subst hqb
      simp only [ah_copy8, if_true] at hq
      cases Option.some.inj (hq.symm.trans g0)
      rw [ah_ok_a rfl ⟨by decide, by decide⟩ (ty := .int) rfl, ah_i8_len]
      refine ⟨c1, ?_, a1, a1'⟩
      rw [arrV_congr (fun j hj => ah_i8_V f hj)]
      simp [Array.getElem?_setIfInBounds, hlt]
    · simp only [ah_copy8, if_neg hqb] at hq
      exact (hP.2 q cq hq).kept (oq q hqb)
  obtain ⟨t, b1, b2⟩ := n.2 p l e R s m args below meth c D _ _ cells slots ls X z0 r1 r2 r3 r4 hP' (fun q hq => by
    rcases List.mem_append.mp hq with z | z
    · exact hL q z
    · obtain ⟨w, -, hw⟩ := List.mem_map.mp z
      rw [← hw]
      exact hA) hl' _ hheap X'
  exact ⟨t, step t b1, b2⟩
end AhSpec
end
section
/-! THROWS: new E(text) and athrow as one row; handlers -/
/-- the words of an exception's making, but for the site's own link and the two statics -/
def ah_own (E : String) (nms : List String) : List Cond := Bundle.throwableAtoms ++ Bundle.throwableSAtoms ++ Bundle.chainSAtoms E nms ++ [.instantiable E 6, .castable E E, .selects E Bundle.tFill0 Bundle.tFill0, .selects E Bundle.tFill Bundle.tFill, .lays E Bundle.tN "cause" "Ljava/lang/Throwable;", .lays E Bundle.tN "stackTrace" Bundle.steD, .lays E Bundle.tN "suppressedExceptions" Bundle.listD, .lays E Bundle.tN "detailMessage" "Ljava/lang/String;", .fieldLink Bundle.tN 198 Bundle.tN "backtrace" "Ljava/lang/Object;", .lays Bundle.tN Bundle.tN "backtrace" "Ljava/lang/Object;", .lays E Bundle.tN "backtrace" "Ljava/lang/Object;"]
theorem ah_wz {D : va_G} {s : State} {args : Array Value} (hK : ah_K D s) {a : Nat} (hz : ah_st2 s s.heap a) {w : Cond} (h : w ∈ ah_W ∨ w = .laysStatic "java/lang/Throwable" "UNASSIGNED_STACK" "[Ljava/lang/StackTraceElement;" ∨ w = .laysStatic "java/lang/Throwable" "SUPPRESSED_SENTINEL" "Ljava/util/List;") : w.before args s = true := by
  rcases h with h | rfl | rfl
  · exact hK.w h
  · exact hz.1.lays
  · exact hz.2.lays
theorem ah_own_in {E own : String} {ic : Nat} {nms : List String} {D : va_G} {s : State} {args : Array Value} (hK : ah_K D s) (hat : ∀ w ∈ ah_own E nms, w ∈ ah_W ∨ w = .laysStatic "java/lang/Throwable" "UNASSIGNED_STACK" "[Ljava/lang/StackTraceElement;" ∨ w = .laysStatic "java/lang/Throwable" "SUPPRESSED_SENTINEL" "Ljava/util/List;") (hml : Cond.methodLink own ic (Bundle.initS E) ∈ ah_W) {a : Nat} (hz : ah_st2 s s.heap a) : ∀ w ∈ Bundle.ownAtoms own ic E nms, w.before args s = true := by
  have k : ∀ w ∈ ah_own E nms, w.before args s = true := fun w hw => ah_wz hK hz (hat w hw)
  intro w hw
  simp only [Bundle.ownAtoms, List.mem_append, List.mem_cons, List.not_mem_nil, or_false] at hw
  rcases hw with ((hw | hw) | hw) | hw
  · exact k w (by simp [ah_own, hw])
  · exact k w (by simp [ah_own, hw])
  · exact k w (by simp [ah_own, hw])
  · rcases hw with rfl | rfl | rfl | rfl | rfl | rfl | rfl | rfl | rfl | rfl | rfl | rfl | rfl | rfl
    · exact hK.w hml
    · exact k _ (by simp [ah_own])
    · exact k _ (by simp [ah_own])
    · exact k _ (by simp [ah_own])
    · exact k _ (by simp [ah_own])
    · exact k _ (by simp [ah_own])
    · exact k _ (by simp [ah_own])
    · exact k _ (by simp [ah_own])
    · exact k _ (by simp [ah_own])
    · exact hz.1.ref
    · exact hz.2.ref
    · exact k _ (by simp [ah_own])
    · exact k _ (by simp [ah_own])
    · exact k _ (by simp [ah_own])
theorem ah_same_old {s t : State} {k n : Nat} (h : s.sameButNew t [] k n) {a : Nat} (ha : a < s.heap.size) : t.heap[a]? = s.heap[a]? := by
  obtain ⟨-, -, -, -, -, h6⟩ := h
  have hc : s.heap[a]? = some s.heap[a] := Array.getElem?_eq_getElem ha
  obtain ⟨c', e1, e2, e3, e4⟩ := h6 a _ hc
  rw [e1, hc, e2]
  congr 1
  have e5 : c'.slots = s.heap[a].slots := by
    apply Array.ext e3
    intro i h1 h2
    have := e4 i (by simp)
    rw [Array.getElem?_eq_getElem h1, Array.getElem?_eq_getElem h2] at this
    exact Option.some.inj this
  rw [e5]
section AhThrow
variable {M : ah_M} {d : Nat} {A : Nat → Prop} {h : ah_H} {pc : Nat} {lv : List (Nat × Value)} {st : List Value}
set_option maxHeartbeats 1000000 in
theorem ah_throw {t sc ic index : Nat} {E text : String} {nms : List String} (hx : ah_ex t = some E) (hfit : Bundle.fit E = true) (hnm : ∀ n ∈ nms, Bundle.fit n = true) (hnl : nms.length ≤ 3) (hat : ∀ w ∈ ah_own E nms, w ∈ ah_W ∨ w = .laysStatic "java/lang/Throwable" "UNASSIGNED_STACK" "[Ljava/lang/StackTraceElement;" ∨ w = .laysStatic "java/lang/Throwable" "SUPPRESSED_SENTINEL" "Ljava/util/List;") (hini : Cond.initialized E ∈ ah_W)
    (hA0 : ∀ q, ¬ A q) (hd9 : 8 ≤ d) (hs9 : ∃ a c, h.2.2 a = some (97, c)) (d0 : decode M.2.1 pc = .ok (.new index, 3)) (d3 : decode M.2.1 (pc + 3) = .ok (.dup, 1)) (d4 : decode M.2.1 (pc + 4) = .ok (.ldc sc, 2)) (d6 : decode M.2.1 (pc + 6) = .ok (.invokespecial ic, 3)) (d9 : decode M.2.1 (pc + 9) = .ok (.athrow, 1))
    (hcl : Cond.classLink M.1.cls index E ∈ ah_W) (hsr : Cond.stringRef M.1.cls sc text ∈ ah_W) (hml : Cond.methodLink M.1.cls ic (Bundle.initS E) ∈ ah_W) (hnh : M.2.2.2.2 = []) (hst : (st.map fun v => v.category).sum ≤ 8 := by exact Nat.le_of_ble_eq_true rfl) :
    ah_At M d A h (.threw h.1) (ah_newx h t) pc lv st h := by
  refine ⟨⟨by show h.1 ≤ h.1 + 1; omega, by show h.2.1 ≤ h.2.1 + 6; omega⟩, fun p l e R s m args below meth c D H locs cells slots ls X z0 r1 r2 r3 r4 hP hL hl' => ?_⟩
  have hc0 : cells = 0 := by omega
  have hs0 : slots = 0 := by omega
  have hlocs : locs = [] := List.eq_nil_iff_forall_not_mem.mpr (fun q hq => hA0 _ (hL q hq))
  subst hc0; subst hs0; subst hlocs
  obtain ⟨hexec, hb, hml0, hrt, hlocks, hname, hown, hex, hK, hfr, hlo, htr⟩ := X
  have r1' : h.1 + 1 ≤ h.1 + R.cells := r1
  have r2' : h.2.1 + 6 ≤ h.2.1 + R.slots := r2
  have hzs : s.heap.size = h.1 := z0.1
  have hzH : H.size = h.1 := hP.1
  obtain ⟨aS, cS, hS⟩ := hs9
  have hzz : ah_st2 s s.heap aS := by
    have h1 := z0.2 aS _ hS
    rw [ah_ok_z] at h1
    exact h1
  have hin : (Cond.instantiable E 6).before args s = true := ah_wz hK hzz (hat _ (by simp [ah_own]))
  obtain ⟨cX, kX, hfX, hkX, hord, -, -, hn6⟩ := Cond.instantiable_spec hin
  refine W.newcK hexec hb hown (hK.w hcl) hin (hK.w hini) rfl d0 (by omega) (by omega) hfX rfl fun H1 kC hkC e1 z1 o1 => ?_
  refine lv_dup hexec hb d3 rfl ?_
  obtain ⟨k', cf, i', am, -, -, -, -, -, hev⟩ := Cond.stringRef_spec hown (hK.w hsr (args := #[]))
  refine va_ldcS (q := am) (tx := text) hexec hb hown ⟨hK.w hsr, hev⟩ d4 ?_
  intro T hT Y
  have hadm := Y.admits
  have htr' : e.platform.stackTraces = false := by
    obtain ⟨-, -, -, -, hp, -⟩ := hadm
    rw [hp]
    exact htr
  obtain ⟨U, s1, s2, s3, s4, s5, ce, c1, c2⟩ := Y.ctorThrowS hexec htr' hown hfit hnm (ah_own_in hK hat hml hzz) (fun x hx => by cases hx) hfX hkC (by rw [hT]; exact e1) (a := H.size) (by omega) (msg := .ref am) rfl
    (g := F0 m (pc + 3 + 1 + 2) ls (.ref am :: .ref H.size :: .ref H.size :: st)) rfl (hl'.1.trans hml0.symm) rfl rfl (rest := st) rfl (by rw [hb]; exact d6) (by rw [hb]; exact d9) (fun x hx' => by
      have h9 : c.exceptionTable.toList = [] := by
        have := hex
        rw [hnh] at this
        exact List.map_eq_nil_iff.mp this
      rw [h9] at hx'
      cases hx') (by omega) (by
      have := lv_room (m := m) (pc := pc + 3 + 1 + 2) (ls := ls) (rest := .ref am :: .ref H.size :: .ref H.size :: st) hst
      show 2 * _ + (1 + (st.map fun v => v.category).sum) + _ ≤ _
      omega)
  refine ⟨U, s1, s2, ?_, ?_, [], ⟨s4, ?_⟩, fun q hq => by cases hq⟩
  · rw [← hzH]; exact s3
  · have hlt : H.size < U.heap.size := (Array.getElem?_eq_some_iff.mp c1).1
    have hsz : U.heap.size ≤ s.heap.size + (0 + 1) := s5.2.2.1
    refine ⟨by show U.heap.size = h.1 + 1; omega, fun q cq hq => ?_⟩
    by_cases hqe : q = h.1
    · subst hqe
      simp only [ah_newx, if_true] at hq
      cases hq
      rw [ah_ok_e hx]
      refine ⟨ce, by rw [← hzH]; exact c1, by rw [s4.alike.findClass]; exact c2.cls, fun k hk => by rw [c2.vm] at hk; cases hk⟩
    · simp only [ah_newx, if_neg hqe] at hq
      have h1 := z0.2 q _ hq
      exact (h1.kept (ah_same_old s5 h1.lt)).moved s4.alike
  · show s.sameButNew _ [] (h.1 + 1 - h.1) (h.2.1 + 6 - h.2.1)
    rw [show h.1 + 1 - h.1 = 0 + 1 by omega, show h.2.1 + 6 - h.2.1 = 0 + 6 by omega]
    exact s5
end AhThrow
end
section
/-! HANDLERS: an exception that comes out of a call is caught in the method, its handlers' classes resolved or not yet -/
theorem ah_go1 {e : Env} {U : State} {f : JFrame} {a c : Nat} {x : ExceptionTableEntry} {t : List ExceptionTableEntry} {cell : Cell} {vm' : Vm} (hx : covers x f.pc = true) (h0 : x.catchType ≠ 0) (hg : (Jvm.resolveClass f.method.cls x.catchType).Gives e.toSetting U.vm (.ok c) vm') (hal : U.vm.Alike vm')
    (hcell : U.heap[a]? = some cell) (hobj : ∀ k, cell.vm ≠ .statics k) (hk : ∃ k, vm'.classes[cell.cls]? = some k) (hc : ∃ k, vm'.classes[c]? = some k) {Q : Handler → Pre} {E : CtlPost} {d : Bool} {acts : List Action} :
    wp (findHandler.go f a (x :: t)) Q E e d acts U ↔ if vm'.assignable cell.cls c = true then Q (.found x.handlerPc) d acts (U.setVm vm') else wp (findHandler.go f a t) Q E e d acts (U.setVm vm') := by
  obtain ⟨ha, ht⟩ := hg.op (op := VmOp.resolveClass f.method.cls x.catchType) rfl
  have hsz : vm'.classes.size ≤ U.vm.classes.size := Vm.Alike.size_le hal
  simp only [covers] at hx
  have hcell' : (U.setVm vm').heap[a]? = some cell := hcell
  cases hfit : vm'.assignable cell.cls c <;>
    simp [findHandler.go, hx, h0, ha, ht, hsz, hcell', hcell, hobj, hk, hc, hfit, VmOp.dirties, VmOp.acts]
/-- which handler takes an exception of class E that comes at pc -/
def ah_hd (own E : String) (pc hp : Nat) : List (Nat × Nat × Nat × Nat) → Prop
  | [] => False
  | x :: r => ((x.1 ≤ pc ∧ pc < x.2.1) ∧ x.2.2.2 ≠ 0 ∧ hp = x.2.2.1 ∧ ∃ C, Cond.classLink own x.2.2.2 C ∈ ah_W ∧ Cond.castable E C ∈ ah_W) ∨ ((x.1 ≤ pc ∧ pc < x.2.1) ∧ x.2.2.2 ≠ 0 ∧ (∃ C, Cond.classLink own x.2.2.2 C ∈ ah_W ∧ Cond.not (.castable E C) ∈ ah_W) ∧ ah_hd own E pc hp r)
theorem ah_ncast {A B : String} {s : State} {args : Array Value} (h : (Cond.not (.castable A B)).before args s = true) {a b : ClassId} (ha : s.vm.findClass A = some a) (hb : s.vm.findClass B = some b) : s.vm.assignable a b = false := by
  simp only [Cond.before, Cond.holds, Cond.value, ha, hb] at h
  simpa using h
theorem ah_find {D : va_G} {s : State} {e : Env} (hK : ah_K D s) (hpl : e.platform.magicAccessors = ({} : Platform).magicAccessors) {own E : String} {f : JFrame} (hown : s.vm.findClass own = some f.method.cls) {a hp : Nat} {cell : Cell} (hE : s.vm.findClass E = some cell.cls) (hobj : ∀ k, cell.vm ≠ .statics k) :
    ∀ (hs : List ExceptionTableEntry) (U : State), s.WarmedH U.vm → U.heap[a]? = some cell → ah_hd own E f.pc hp (hs.map (fun x => (x.startPc, x.endPc, x.handlerPc, x.catchType))) →
      ∃ vm', s.WarmedH vm' ∧ ∀ (Q : Handler → Pre) (Et : CtlPost) (d : Bool) (acts : List Action), wp (findHandler.go f a hs) Q Et e d acts U ↔ Q (.found hp) d acts (U.setVm vm')
  | [], U, _, _, h => h.elim
  | x :: r, U, hW, hcell, h => by
    have hcov : ∀ z : x.startPc ≤ f.pc ∧ f.pc < x.endPc, covers x f.pc = true := fun z => by
      simp only [covers, Bool.and_eq_true, decide_eq_true_eq]
      exact z
    obtain ⟨kE, hkE, -⟩ := Vm.findClass_spec hE
    rcases h with ⟨z, h0, hp', C, hl, hca⟩ | ⟨z, h0, ⟨C, hl, hca⟩, hr⟩
    · obtain ⟨c, hc, hlk⟩ := Cond.classLink_spec hown (hK.w hl (args := #[])) e.platform hpl
      obtain ⟨hg, hwarm, -⟩ := State.classEntry (e := e) hW hlk
      generalize U.vm.noted f.method.cls x.catchType (.cls c) = vm' at hg hwarm
      obtain ⟨k1, hk1, -⟩ := hwarm.alike.2.2 _ _ hkE
      obtain ⟨kC, hkC, -⟩ := Vm.findClass_spec hc
      obtain ⟨k2, hk2, -⟩ := hwarm.alike.2.2 _ _ hkC
      obtain ⟨c1, t1, q1, q2, q3⟩ := Cond.castable_spec (hK.w hca (args := #[]))
      cases Option.some.inj (q1.symm.trans hE)
      cases Option.some.inj (q2.symm.trans hc)
      have hasg : vm'.assignable cell.cls c = true := by rw [hwarm.alike.assignable]; exact q3
      subst hp'
      refine ⟨vm', hwarm, fun Q Et d acts => ?_⟩
      rw [ah_go1 (hcov z) h0 hg (hW.alike.symm.trans hwarm.alike) hcell hobj ⟨k1, hk1⟩ ⟨k2, hk2⟩, if_pos hasg]
    · obtain ⟨c, hc, hlk⟩ := Cond.classLink_spec hown (hK.w hl (args := #[])) e.platform hpl
      obtain ⟨hg, hwarm, -⟩ := State.classEntry (e := e) hW hlk
      generalize U.vm.noted f.method.cls x.catchType (.cls c) = vm' at hg hwarm
      obtain ⟨k1, hk1, -⟩ := hwarm.alike.2.2 _ _ hkE
      obtain ⟨kC, hkC, -⟩ := Vm.findClass_spec hc
      obtain ⟨k2, hk2, -⟩ := hwarm.alike.2.2 _ _ hkC
      have hasg : ¬ vm'.assignable cell.cls c = true := by
        rw [hwarm.alike.assignable, ah_ncast (hK.w hca (args := #[])) hE hc]
        decide
      obtain ⟨vm2, hwarm2, hf⟩ := ah_find hK hpl hown hE hobj r (U.setVm vm') hwarm hcell hr
      refine ⟨vm2, hwarm2, fun Q Et d acts => ?_⟩
      rw [ah_go1 (hcov z) h0 hg (hW.alike.symm.trans hwarm.alike) hcell hobj ⟨k1, hk1⟩ ⟨k2, hk2⟩, if_neg hasg, hf]
      exact Iff.rfl
theorem ah_stepC {e : Env} {s : State} {a : Addr} {f : JFrame} {r : List Frame} {pc : Nat} {vm' : Vm} (hfind : ∀ (Q : Handler → Pre) (E : CtlPost) (d : Bool) (acts : List Action), wp (findHandler f a) Q E e d acts s ↔ Q (.found pc) d acts (s.setVm vm')) :
    (stepThrowing e s a (.java f :: r)).Is ((s.setVm vm').setFrames (.java { f with pc := pc, stack := [.ref a] } :: r)) [] := by
  simp only [stepThrowing, searchFrame, vmDo]
  generalize hr : Sem.go _ e false [] s = res
  obtain ⟨as, rfl, ha⟩ := Sem.eq_ok_of hr (a := Handler.found pc) (s' := s.setVm vm') (acts' := []) (by simp [hfind _ _ _ _])
  exact ⟨rfl, ha⟩
theorem ah_thr_catch {M : ah_M} {d : Nat} {A : Nat → Prop} {h0 : ah_H} {o : Outcome} {h2 h : ah_H} {pc a t hp : Nat} {E : String} {fs : List Value} {lv : List (Nat × Value)} (hx : ah_ex t = some E) (hcell : h.2.2 a = some (t, fs)) (hh : ah_hd M.1.cls E pc hp M.2.2.2.2) (n : ah_At M d A h0 o h2 hp lv [.ref a] h) : ah_thr M d A h0 o h2 pc lv h a := by
  refine ⟨n.1, fun p l e R s m args below meth c D locs cells slots ls st T X z0 r1 r2 r3 r4 hP hL hl Y => ?_⟩
  have hK := X.2.2.2.2.2.2.2.2.1
  have hown := X.2.2.2.2.2.2.1
  have hpl : e.platform.magicAccessors = ({} : Platform).magicAccessors := by rw [Y.admits.platform]
  have h1 := hP.2 a _ hcell
  rw [ah_ok_e hx] at h1
  obtain ⟨cell, g1, g2, g3⟩ := h1
  have hat : At T (F0 m pc ls st).method c below := Y.here
  obtain ⟨vm', hW', hf⟩ := ah_find hK hpl (f := F0 m pc ls st) hown g2 g3 c.exceptionTable.toList ((T.setTop (F0 m pc ls st)).pushFrame (.throwing a)) (by rw [Stand.throwing_vm]; exact Y.warmed) (by rw [Stand.throwing_heap]; exact g1) (by rw [X.2.2.2.2.2.2.2.1]; exact hh)
  obtain ⟨t', a1, a2⟩ := n.2 p l e R s m args below meth c D T.heap locs cells slots ls X z0 r1 r2 r3 r4 hP hL hl (T.setVm vm') rfl (Y.noted hW')
  refine ⟨t', ?_, a2⟩
  obtain ⟨hgo, hw⟩ := hat.throwing a
  refine Steps.head hgo hw ?_
  have hm : ((T.setTop (F0 m pc ls st)).pushFrame (.throwing a)).vm.method? m = some meth := by rw [Stand.throwing_vm]; exact Y.method'
  rw [stepThread_throwing (frames_entered hat.top _), (ah_stepC (s := (T.setTop (F0 m pc ls st)).pushFrame (.throwing a)) (fun Q Et d acts => (W.findHandler_eq hm Y.code).trans (hf Q Et d acts))).1]
  obtain ⟨g₀, hg⟩ := Option.isSome_iff_exists.mp hat.top
  obtain ⟨r, hr⟩ := State.topJava?_eq_some.mp hg
  have hr' : (T.setVm vm').frames = .java g₀ :: r := hr
  rw [State.setTop_of_frames _ hr'] at a1
  have key : ((((T.setTop (F0 m pc ls st)).pushFrame (.throwing a)).setVm vm').setFrames (.java { F0 m pc ls st with pc := hp, stack := [.ref a] } :: T.frames.tail)) = (T.setVm vm').setFrames (.java (F0 m hp ls [.ref a]) :: r) := by
    rw [State.pushFrame, State.setTop_of_frames _ hr, State.setFrames_setFrames, hr]
    show (((T.setVm vm').setFrames _).setFrames _) = _
    rw [State.setFrames_setFrames]
    rfl
  rw [key]
  exact a1
end
section
/-! NoSuchElementException(text): its constructor passes its text on by another entry of the pool than the others do -/
def ah_sixN : ByteArray := ⟨#[0x2a, 0x2b, 0xb7, 0x00, 0x0d, 0xb1]⟩
def ah_ownN (E : String) : List Cond := Bundle.throwableAtoms ++ Bundle.throwableSAtoms ++ (Bundle.passSAtoms E "java/lang/RuntimeException" 13 ah_sixN ++ Bundle.chainSAtoms "java/lang/RuntimeException" ["java/lang/Exception"]) ++ [.instantiable E 6, .castable E E, .selects E Bundle.tFill0 Bundle.tFill0, .selects E Bundle.tFill Bundle.tFill, .lays E Bundle.tN "cause" "Ljava/lang/Throwable;", .lays E Bundle.tN "stackTrace" Bundle.steD, .lays E Bundle.tN "suppressedExceptions" Bundle.listD, .lays E Bundle.tN "detailMessage" "Ljava/lang/String;", .fieldLink Bundle.tN 198 Bundle.tN "backtrace" "Ljava/lang/Object;", .lays Bundle.tN Bundle.tN "backtrace" "Ljava/lang/Object;", .lays E Bundle.tN "backtrace" "Ljava/lang/Object;"]
section AhNse
variable {p : Program} {l : Launch} {e : Env} {R : Room} {s : State} {m₀ : MethodId} {args : Array Value} {below : List Frame} {meth : Method} {c : Code} {V : State} {cells slots : Nat}
set_option maxHeartbeats 2000000 in
theorem ah_nse (X : Stand p l e R s m₀ args below meth c V [] cells slots) (hexec : p.tables.exec = Jvm.exec) (htr : e.platform.stackTraces = false) {own E : String} {ic : Nat} (hown : s.vm.findClass own = some m₀.cls) (hE : Bundle.fit E = true)
    (h : ∀ w ∈ ah_ownN E, w.before args s = true) (hml : (Cond.methodLink own ic (Bundle.initS E)).before args s = true) (hu : (Cond.isRef (.static "java/lang/Throwable" "UNASSIGNED_STACK" "[Ljava/lang/StackTraceElement;")).before args s = true) (hn : (Cond.isRef (.static "java/lang/Throwable" "SUPPRESSED_SENTINEL" "Ljava/util/List;")).before args s = true)
    {a : Addr} {cX : ClassId} {kX : Class} (hfX : s.vm.findClass E = some cX) (hkX : s.vm.classes[cX]? = some kX) (hcell : V.heap[a]? = some (blank cX kX)) (hnew : s.heap.size ≤ a) {msg : Value} (hmsg : msg.isRef = true)
    {g : JFrame} (hg : g.method = m₀) (hsize : g.locals.size = c.maxLocals) (hlocked : g.locked = none) (hentered : g.entered = []) {rest : List Value} (hstack : g.stack = msg :: .ref a :: .ref a :: rest)
    (hd6 : decode c.code g.pc = .ok (.invokespecial ic, 3)) (hd9 : decode c.code (g.pc + 3) = .ok (.athrow, 1)) (hout : ∀ x ∈ c.exceptionTable.toList, covers x (g.pc + 3) = false)
    (hRf : 6 < R.frames) (hRl : 2 * g.monitorRoom + ((Value.ref a :: rest).map fun v => v.category).sum + (13 * 3 + 42) ≤ R.locals) (hlocks : meth.locks = false) :
    ∃ U : State, Steps p.tables e below (V.setTop g) U ∧ U.status = .running ∧ Ended U below (.threw a) ∧ s.WarmedH U.vm ∧ s.sameButNew ({ U with vm := s.vm } : State) [] cells slots ∧ ∃ ce, U.heap[a]? = some ce ∧ s.vm.findClass E = some ce.cls ∧ ce.vm = .none := by
  have howns : e.platform.frameOwnsMonitors = true := by rw [X.admits.platform]
  have hfin : e.platform.finalization = false := by rw [X.admits.platform]
  have hpl : e.platform.magicAccessors = ({} : Platform).magicAccessors := by rw [X.admits.platform]
  have q : ∀ x, x ∈ ah_ownN E → x.holds args s none s [] = true := fun x hx => h x hx
  obtain ⟨T, Z0, L, -, Y⟩ := ThrowableC.of_atoms (args := args) howns hfin hpl (fun x hx => h x (by simp [ah_ownN, hx]))
  obtain ⟨Z, Mg, LZ, LM, hnZ⟩ := Init0T.ofS_atoms (args := args) hpl L Y (fun x hx => h x (by simp [ah_ownN, hx]))
  obtain ⟨P2, Ps, hlen, L2, hL, hP2m, hlink2, hlink⟩ := Bundle.chainS (args := args) hpl hnZ ["java/lang/Exception"] "java/lang/RuntimeException" (by decide) (by decide) (fun x hx => h x (by simp [ah_ownN, hx]))
  obtain ⟨P1, L1, hP1m, hP1s⟩ := PassC.ofS_atoms (args := args) (s := s) hpl (X := E) (Y := "java/lang/RuntimeException") (index := 13) (bytes := ah_sixN) (Bundle.fit_spec hE).1 (by decide) (by decide +kernel) (by decide +kernel) (by decide +kernel) (by decide +kernel) (fun x hx => h x (by simp [ah_ownN, hx]))
  have hsup : P1.sup = P2.m := Option.some.inj (hP1s.symm.trans hP2m)
  have hfound : s.vm.findClass E = some P1.m.cls := findClass_of_methodNamed hP1m
  cases Option.some.inj (hfX.symm.trans hfound)
  obtain ⟨c1, kX', hc1, hk, hord, -, -, hn6⟩ := Cond.instantiable_spec (q (.instantiable E 6) (by simp [ah_ownN]))
  cases Option.some.inj (hc1.symm.trans hfound)
  cases Option.some.inj (hkX.symm.trans hk)
  have hsel0 : selectMethod e.platform s.vm P1.m.cls T.fill0 = .method T.fill0 := by
    obtain ⟨c2, r2, m2, q1, q2, q3, q4, -⟩ := Cond.selects_spec (q (.selects E Bundle.tFill0 Bundle.tFill0) (by simp [ah_ownN]))
    cases Option.some.inj (q1.symm.trans hfound)
    cases Option.some.inj (q2.symm.trans (State.methodFound?_of_named Y.fill0 (by decide)))
    cases Option.some.inj (q3.symm.trans Y.fill0)
    rw [Launch.admits_selectMethod X.admits]; exact q4
  have hselF : selectMethod e.platform s.vm P1.m.cls T.fill = .method T.fill := by
    obtain ⟨c2, r2, m2, q1, q2, q3, q4, -⟩ := Cond.selects_spec (q (.selects E Bundle.tFill Bundle.tFill) (by simp [ah_ownN]))
    cases Option.some.inj (q1.symm.trans hfound)
    cases Option.some.inj (q2.symm.trans (State.methodFound?_of_named Y.fill (by decide)))
    cases Option.some.inj (q3.symm.trans Y.fill)
    rw [Launch.admits_selectMethod X.admits]; exact q4
  obtain ⟨cellS0, hcS0, hiss⟩ := Y.statics
  obtain ⟨u0, hu0⟩ := Cond.staticRefV Y.unassigned L.unassignedStatic L.statics hcS0 hiss hu
  obtain ⟨sen, hsen⟩ := Cond.staticRefV Y.sentinel L.sentinelStatic L.statics hcS0 hiss hn
  obtain ⟨ci198, i198, fB, hk198, hg198, ha198, hsB, -, hnB, htB, hffB⟩ := Cond.ownField (t := .object "java/lang/Object") Y.found L.cls (by decide +kernel) (q (.fieldLink Bundle.tN 198 Bundle.tN "backtrace" "Ljava/lang/Object;") (by simp [ah_ownN])) (q (.lays Bundle.tN Bundle.tN "backtrace" "Ljava/lang/Object;") (by simp [ah_ownN])) e.platform hpl
  obtain ⟨cellS, hcellS, heS, -, hkeep⟩ := X.same.2.2.2.2.2 T.aS cellS0 hcS0
  have hcellS : V.heap[T.aS]? = some cellS := hcellS
  have hknownS : cellS.vm ≠ .unknown := by
    rw [heS]; intro hu
    rw [show cellS0.vm = .unknown from hu] at hiss
    cases hiss
  have hneS : T.aS ≠ a := Nat.ne_of_lt (Nat.lt_of_lt_of_le (Array.getElem?_eq_some_iff.mp hcS0).1 hnew)
  obtain ⟨iM, hffM⟩ := Y.msg
  obtain ⟨tyC, dC, hdC, hdnC⟩ := Cond.laysAt hfound hk Y.cause (q (.lays E Bundle.tN "cause" "Ljava/lang/Throwable;") (by simp [ah_ownN]))
  obtain ⟨tyS, dS, hdS, hdnS⟩ := Cond.laysAt hfound hk Y.stack (q (.lays E Bundle.tN "stackTrace" Bundle.steD) (by simp [ah_ownN]))
  obtain ⟨tyP, dP, hdP, hdnP⟩ := Cond.laysAt hfound hk Y.supp (q (.lays E Bundle.tN "suppressedExceptions" Bundle.listD) (by simp [ah_ownN]))
  obtain ⟨tyM, dM, hdM, hdnM⟩ := Cond.laysAt hfound hk hffM (q (.lays E Bundle.tN "detailMessage" "Ljava/lang/String;") (by simp [ah_ownN]))
  obtain ⟨tyB, dB, hdB, hdnB⟩ := Cond.laysAt hfound hk hffB (q (.lays E Bundle.tN "backtrace" "Ljava/lang/Object;") (by simp [ah_ownN]))
  have bC := Cond.laysApart hdB hdC hdnB hdnC (by rw [hnB, Y.causeName]; decide)
  have bS := Cond.laysApart hdB hdS hdnB hdnS (by rw [hnB, Y.stackName]; decide)
  have bP := Cond.laysApart hdB hdP hdnB hdnP (by rw [hnB, Y.suppName]; decide)
  have hskip : SkipFacts T e.platform s (fun u => u) u0 ((preparedCellV T.toThrowableT (blank P1.m.cls kX) a u0 sen).withEntry V.cur) :=
    ⟨{ ci198 := ci198, i198 := i198, fBack := fB }, ⟨hk198, hg198, ha198, hsB⟩, by
      have := fresh_default (c := P1.m.cls) tyB
      rw [htB] at this
      simpa [preparedCellV, Cell.setSlot, Cell.withEntry, Array.getElem?_setIfInBounds, bC, bS, bP, bC.symm, bS.symm, bP.symm, defaultValue, blank, freshCell] using this, fun _ _ => rfl⟩
  obtain ⟨tm, methC, cdC, kC, vm₁, hnC, -, -, -, -, -, -, -, hW₁, st1⟩ := Steps.initColdS (tb := p.tables) (e := e) (below := below) (s := s) (U := V) X.here hexec X.warmed hpl hown (t := Bundle.initS E) rfl rfl (Bundle.fit_spec hE).2
    hml (h (.instanceMethod (Bundle.initS E)) (by simp [ah_ownN, Bundle.passSAtoms])) (bytes := ah_sixN) (maxL := 2) (h (.code (Bundle.initS E) ah_sixN 2 none) (by simp [ah_ownN, Bundle.passSAtoms])) (f := g) hg (a := a) (msg := msg) (rest := .ref a :: rest) hstack hd6
  cases Option.some.inj (hnC.symm.trans hP1m)
  have X₁ := X.noted hW₁
  have hout' : ∀ i, (⟨T.aS, i⟩ : Loc) ∉ ([] : List Loc) := fun i hm => by cases hm
  obtain ⟨vm₂, X₂, st2⟩ := X₁.ctorMessageOffV hexec (g := { g with stack := .ref a :: rest }) hg hsize T L Z LZ Mg LM (P1 :: P2 :: Ps)
    (fun P hP => by
      rcases List.mem_cons.mp hP with rfl | hP
      · exact L1
      · rcases List.mem_cons.mp hP with rfl | hP
        · exact L2
        · exact hL P hP) ⟨hsup, hlink2, hlink⟩ (u0 := u0) (sen := sen) (self := a) hmsg (cell := blank P1.m.cls kX) (cellS := cellS)
    hcell (fun _ z => by cases z) (fun z => by cases z) rfl rfl hsel0 hselF hcellS hneS hknownS (by rw [hkeep _ (hout' _)]; exact hu0) (by rw [hkeep _ (hout' _)]; exact hsen)
    (Takes.of_laid hk hord tyC (by rw [Y.causeType]; rfl)) (Takes.of_laid hk hord tyS (by rw [Y.stackType]; exact fits_refV_array _ u0)) (Takes.of_laid hk hord tyP (by rw [Y.suppType]; exact fits_refV_object _ sen))
    (Takes.of_laid hk hord tyM (by rw [Y.msgType]; exact fits_refV_object _ ⟨msg, hmsg⟩)) Y.objLocals hskip htr [] hd6
    (by simp only [List.length_cons, hlen, List.length_nil]; omega) (by simp only [List.length_cons, hlen, List.length_nil]; exact hRl)
  obtain ⟨hwalk, hrun, hended, hWU, hsame⟩ := X₂.athrowLeaves hexec (g := { g with stack := .ref a :: rest, pc := g.pc + 3 }) hg hlocked hentered hout (a := a) (rest := rest) rfl hd9
  have hlt : a < ((V.setVm vm₁).setVm vm₂).heap.size := (Array.getElem?_eq_some_iff.mp hcell).1
  have hU := heapAt_setCell_self (s := (V.setVm vm₁).setVm vm₂) (plainBareV T.toThrowableT (blank P1.m.cls kX) a u0 sen msg) hlt
  refine ⟨_, st1 _ (fun acts => ?_), hrun, hended, hWU, hsame.weaken (fun y hy hlt' => ?_) (Nat.le_refl _) (Nat.le_refl _), _, hU, hfound, rfl⟩
  · rw [doInvoke_state]
    exact st2 _ hwalk
  · exfalso
    have hb : y.base = a := by
      simp only [List.nil_append, List.mem_cons, List.not_mem_nil, or_false] at hy
      rcases hy with rfl | rfl | rfl | rfl | rfl <;> rfl
    rw [hb] at hlt'
    exact Nat.not_lt.mpr hnew hlt'
end AhNse
end
section
/-! SWITCHES: a number in the table's range is one of the list -/
theorem ah_sw {x : Int32} {lo hi : Int} (L : List Int32) (y0 : ¬ (x.toInt < lo ∨ hi < x.toInt)) (hL : (List.range (hi - lo + 1).toNat).map (fun k : Nat => Int32.ofInt (lo + (k : Int))) = L) : x ∈ L := by
  rw [← hL]
  refine List.mem_map.mpr ⟨(x.toInt - lo).toNat, List.mem_range.mpr ?_, ?_⟩
  · omega
  · show Int32.ofInt (lo + (((x.toInt - lo).toNat : Nat) : Int)) = x
    rw [show lo + (((x.toInt - lo).toNat : Nat) : Int) = x.toInt by omega]
    exact Int32.ofInt_toInt x
end
section
/-! METHODS as records. Printed by wip/make.py. -/
def mt_B_init : ah_M := (⟨"TrainLoads$Box", "<init>", "()V"⟩, prog_2_method_1_code, 1, none, [])
def mt_L_init : ah_M := (⟨"TrainLoads$Load", "<init>", "()V"⟩, prog_3_method_1_code, 1, none, [])
def mt_L_clear : ah_M := (⟨"TrainLoads$Load", "clear", "()V"⟩, prog_3_method_2_code, 1, none, [])
def mt_L_putOn : ah_M := (⟨"TrainLoads$Load", "putOn", "(LTrainLoads$Box;)V"⟩, prog_3_method_3_code, 2, none, [])
def mt_L_takeOff : ah_M := (⟨"TrainLoads$Load", "takeOff", "(LTrainLoads$Box;)V"⟩, prog_3_method_4_code, 2, none, [])
def mt_L_change : ah_M := (⟨"TrainLoads$Load", "change", "(LTrainLoads$Box;I)V"⟩, prog_3_method_5_code, 3, none, [])
def mt_P_init : ah_M := (⟨"TrainLoads$Pattern", "<init>", "()V"⟩, prog_4_method_1_code, 1, none, [])
def mt_P_addPlaces : ah_M := (⟨"TrainLoads$Pattern", "addPlaces", "(I)V"⟩, prog_4_method_2_code, 4, none, [])
def mt_P_holds : ah_M := (⟨"TrainLoads$Pattern", "holds", "(LTrainLoads$Load;I)Z"⟩, prog_4_method_3_code, 5, (some .boolean), [])
def mt_P_placeBehind : ah_M := (⟨"TrainLoads$Pattern", "placeBehind", "(II)I"⟩, prog_4_method_4_code, 5, (some .int), [])
def mt_N_init : ah_M := (⟨"TrainLoads$Planner", "<init>", "(LTrainLoads$Train;)V"⟩, prog_5_method_1_code, 3, none, [])
def mt_N_makePlan : ah_M := (⟨"TrainLoads$Planner", "makePlan", "()V"⟩, prog_5_method_2_code, 1, none, [])
def mt_N_lengthUsed : ah_M := (⟨"TrainLoads$Planner", "lengthUsed", "()I"⟩, prog_5_method_3_code, 3, (some .int), [])
def mt_N_boxesLoaded : ah_M := (⟨"TrainLoads$Planner", "boxesLoaded", "()I"⟩, prog_5_method_4_code, 3, (some .int), [])
def mt_N_wagonOf : ah_M := (⟨"TrainLoads$Planner", "wagonOf", "(I)I"⟩, prog_5_method_5_code, 2, (some .int), [])
def mt_N_patternOf : ah_M := (⟨"TrainLoads$Planner", "patternOf", "(I)I"⟩, prog_5_method_6_code, 2, (some .int), [])
def mt_N_placeOf : ah_M := (⟨"TrainLoads$Planner", "placeOf", "(I)I"⟩, prog_5_method_7_code, 7, (some .int), [])
def mt_N_leftBehind : ah_M := (⟨"TrainLoads$Planner", "leftBehind", "(I)I"⟩, prog_5_method_8_code, 5, (some .int), [])
def mt_N_clearLoads : ah_M := (⟨"TrainLoads$Planner", "clearLoads", "()V"⟩, prog_5_method_9_code, 2, none, [])
def mt_N_weighBoxes : ah_M := (⟨"TrainLoads$Planner", "weighBoxes", "()V"⟩, prog_5_method_10_code, 3, none, [])
def mt_N_someWagonTakes : ah_M := (⟨"TrainLoads$Planner", "someWagonTakes", "(I)Z"⟩, prog_5_method_11_code, 3, (some .boolean), [])
def mt_N_tryFrom : ah_M := (⟨"TrainLoads$Planner", "tryFrom", "(I)V"⟩, prog_5_method_12_code, 3, none, [])
def mt_N_tryOn : ah_M := (⟨"TrainLoads$Planner", "tryOn", "(II)V"⟩, prog_5_method_13_code, 3, none, [])
def mt_N_putBestOn : ah_M := (⟨"TrainLoads$Planner", "putBestOn", "()V"⟩, prog_5_method_14_code, 2, none, [])
def mt_N_mayPutOn : ah_M := (⟨"TrainLoads$Planner", "mayPutOn", "(II)Z"⟩, prog_5_method_15_code, 6, (some .boolean), [])
def mt_N_rulesAllow : ah_M := (⟨"TrainLoads$Planner", "rulesAllow", "(II)Z"⟩, prog_5_method_16_code, 5, (some .boolean), [])
def mt_N_isBarred : ah_M := (⟨"TrainLoads$Planner", "isBarred", "(ILTrainLoads$Load;I)Z"⟩, prog_5_method_17_code, 5, (some .boolean), [])
def mt_T_init : ah_M := (⟨"TrainLoads$Train", "<init>", "()V"⟩, prog_6_method_1_code, 2, none, [])
def mt_T_hasWagon : ah_M := (⟨"TrainLoads$Train", "hasWagon", "(I)Z"⟩, prog_6_method_2_code, 2, (some .boolean), [])
def mt_T_hasBox : ah_M := (⟨"TrainLoads$Train", "hasBox", "(I)Z"⟩, prog_6_method_3_code, 2, (some .boolean), [])
def mt_T_addWagon : ah_M := (⟨"TrainLoads$Train", "addWagon", "(IJII)I"⟩, prog_6_method_4_code, 7, (some .int), [])
def mt_T_addBox : ah_M := (⟨"TrainLoads$Train", "addBox", "(IJIIJ)I"⟩, prog_6_method_5_code, 9, (some .int), [])
def mt_T_rankOf : ah_M := (⟨"TrainLoads$Train", "rankOf", "(I)I"⟩, prog_6_method_6_code, 6, (some .int), [])
def mt_T_reasonAgainst : ah_M := (⟨"TrainLoads$Train", "reasonAgainst", "(LTrainLoads$Box;)I"⟩, prog_6_method_7_code, 5, (some .int), [])
def mt_G_init : ah_M := (⟨"TrainLoads$Wagon", "<init>", "()V"⟩, prog_7_method_1_code, 2, none, [])
def mt_G_addPattern : ah_M := (⟨"TrainLoads$Wagon", "addPattern", "(I)I"⟩, prog_7_method_2_code, 2, (some .int), [])
def mt_G_hasPlaceFor : ah_M := (⟨"TrainLoads$Wagon", "hasPlaceFor", "(I)Z"⟩, prog_7_method_3_code, 3, (some .boolean), [])
def mt_G_leastPattern : ah_M := (⟨"TrainLoads$Wagon", "leastPattern", "(LTrainLoads$Load;I)I"⟩, prog_7_method_4_code, 4, (some .int), [])
def mt_G_reasonAgainst : ah_M := (⟨"TrainLoads$Wagon", "reasonAgainst", "(LTrainLoads$Box;)I"⟩, prog_7_method_5_code, 2, (some .int), [])
def mt_X_init : ah_M := (⟨"TrainLoads", "<init>", "()V"⟩, prog_1_method_1_code, 1, none, [])
def mt_X_wagon : ah_M := (⟨"TrainLoads", "wagon", "(IJII)I"⟩, prog_1_method_2_code, 6, (some .int), [])
def mt_X_pattern : ah_M := (⟨"TrainLoads", "pattern", "(II)I"⟩, prog_1_method_3_code, 4, (some .int), [])
def mt_X_box : ah_M := (⟨"TrainLoads", "box", "(IJIIJ)I"⟩, prog_1_method_4_code, 8, (some .int), [])
def mt_X_rule : ah_M := (⟨"TrainLoads", "rule", "(III)Z"⟩, prog_1_method_5_code, 4, (some .boolean), [])
def mt_X_cut : ah_M := (⟨"TrainLoads", "cut", "(J)Z"⟩, prog_1_method_6_code, 3, (some .boolean), [])
def mt_X_out : ah_M := (⟨"TrainLoads", "out", "(IZ)Z"⟩, prog_1_method_7_code, 3, (some .boolean), [])
def mt_X_plan : ah_M := (⟨"TrainLoads", "plan", "()I"⟩, prog_1_method_8_code, 1, (some .int), [])
def mt_X_at : ah_M := (⟨"TrainLoads", "at", "(II)I"⟩, prog_1_method_9_code, 3, (some .int), [])
def mt_X_load : ah_M := (⟨"TrainLoads", "load", "(II)J"⟩, prog_1_method_10_code, 4, (some .long), [])
def mt_X_axle : ah_M := (⟨"TrainLoads", "axle", "(II)J"⟩, prog_1_method_11_code, 6, (some .long), [])
def mt_X_standby : ah_M := (⟨"TrainLoads", "standby", "(I)I"⟩, prog_1_method_12_code, 2, (some .int), [])
def mt_X_refused : ah_M := (⟨"TrainLoads", "refused", "(I)I"⟩, prog_1_method_13_code, 2, (some .int), [])
def mt_X_together : ah_M := (⟨"TrainLoads", "together", "(II)Z"⟩, prog_1_method_14_code, 3, (some .boolean), [])
def mt_X_count : ah_M := (⟨"TrainLoads", "count", "(I)I"⟩, prog_1_method_15_code, 2, (some .int), [])
def mt_X_patternsOf : ah_M := (⟨"TrainLoads", "patternsOf", "(I)I"⟩, prog_1_method_16_code, 3, (some .int), [])
def mt_X_needPlan : ah_M := (⟨"TrainLoads", "needPlan", "()V"⟩, prog_1_method_17_code, 1, none, [])
def mt_X_isBetween : ah_M := (⟨"TrainLoads", "isBetween", "(JJJ)Z"⟩, prog_1_method_18_code, 6, (some .boolean), [])
def mt_X_lengthOfSize : ah_M := (⟨"TrainLoads", "lengthOfSize", "(I)I"⟩, prog_1_method_19_code, 1, (some .int), [])
def mt_X_isRowOfSizes : ah_M := (⟨"TrainLoads", "isRowOfSizes", "(I)Z"⟩, prog_1_method_20_code, 3, (some .boolean), [])
def mt_X_lengthOfRow : ah_M := (⟨"TrainLoads", "lengthOfRow", "(I)I"⟩, prog_1_method_21_code, 4, (some .int), [])
def mt_A_wagon : ah_M := (⟨"TrainLoadsLaw", "wagon", "(LTrainLoads;IJII[J)I"⟩, method_3_code, 8, (some .int), [(0, 15, 18, 13), (0, 15, 22, 15)])
def mt_A_pattern : ah_M := (⟨"TrainLoadsLaw", "pattern", "(LTrainLoads;II[J)I"⟩, method_4_code, 5, (some .int), [(0, 10, 13, 13), (0, 10, 17, 15)])
def mt_A_box : ah_M := (⟨"TrainLoadsLaw", "box", "(LTrainLoads;IJIIJ[J)I"⟩, method_5_code, 10, (some .int), [(0, 17, 20, 13), (0, 17, 24, 15)])
def mt_A_at : ah_M := (⟨"TrainLoadsLaw", "at", "(LTrainLoads;II[J)I"⟩, method_6_code, 5, (some .int), [(0, 10, 13, 28), (0, 10, 17, 30)])
def mt_A_load : ah_M := (⟨"TrainLoadsLaw", "load", "(LTrainLoads;II[J)I"⟩, method_7_code, 5, (some .int), [(0, 9, 12, 28), (0, 9, 16, 30)])
def mt_A_axle : ah_M := (⟨"TrainLoadsLaw", "axle", "(LTrainLoads;II[J)I"⟩, method_8_code, 5, (some .int), [(0, 9, 12, 28), (0, 9, 16, 30), (0, 9, 20, 39)])
def mt_A_standby : ah_M := (⟨"TrainLoadsLaw", "standby", "(LTrainLoads;I[J)I"⟩, method_9_code, 4, (some .int), [(0, 9, 12, 30)])
def mt_A_refused : ah_M := (⟨"TrainLoadsLaw", "refused", "(LTrainLoads;I[J)I"⟩, method_10_code, 4, (some .int), [(0, 9, 12, 28)])
def mt_A_together : ah_M := (⟨"TrainLoadsLaw", "together", "(LTrainLoads;II[J)I"⟩, method_11_code, 5, (some .int), [(0, 17, 20, 28)])
def mt_A_law : ah_M := (⟨"TrainLoadsLaw", "law", "([I)Z"⟩, code, 8, (some .boolean), [])
def mt_M_init : ah_M := (⟨"TrainLoadsModel", "<init>", "()V"⟩, prog_9_method_1_code, 1, none, [])
def mt_M_thrown : ah_M := (⟨"TrainLoadsModel", "thrown", "()I"⟩, prog_9_method_2_code, 1, (some .int), [])
def mt_M_in : ah_M := (⟨"TrainLoadsModel", "in", "(JJJ)Z"⟩, prog_9_method_3_code, 6, (some .boolean), [])
def mt_M_lengthOf : ah_M := (⟨"TrainLoadsModel", "lengthOf", "(I)I"⟩, prog_9_method_4_code, 1, (some .int), [])
def mt_M_isWagon : ah_M := (⟨"TrainLoadsModel", "isWagon", "(I)Z"⟩, prog_9_method_5_code, 2, (some .boolean), [])
def mt_M_isBox : ah_M := (⟨"TrainLoadsModel", "isBox", "(I)Z"⟩, prog_9_method_6_code, 2, (some .boolean), [])
def mt_M_wagon : ah_M := (⟨"TrainLoadsModel", "wagon", "(IJII)I"⟩, prog_9_method_7_code, 6, (some .int), [])
def mt_M_pattern : ah_M := (⟨"TrainLoadsModel", "pattern", "(II)I"⟩, prog_9_method_8_code, 6, (some .int), [])
def mt_M_box : ah_M := (⟨"TrainLoadsModel", "box", "(IJIIJ)I"⟩, prog_9_method_9_code, 8, (some .int), [])
def mt_M_rule : ah_M := (⟨"TrainLoadsModel", "rule", "(III)Z"⟩, prog_9_method_10_code, 4, (some .boolean), [])
def mt_M_cut : ah_M := (⟨"TrainLoadsModel", "cut", "(J)Z"⟩, prog_9_method_11_code, 3, (some .boolean), [])
def mt_M_out : ah_M := (⟨"TrainLoadsModel", "out", "(IZ)Z"⟩, prog_9_method_12_code, 3, (some .boolean), [])
def mt_M_rulesOf : ah_M := (⟨"TrainLoadsModel", "rulesOf", "(II)I"⟩, prog_9_method_13_code, 3, (some .int), [])
def mt_M_placesOf : ah_M := (⟨"TrainLoadsModel", "placesOf", "(II)I"⟩, prog_9_method_14_code, 4, (some .int), [])
def mt_M_patternFor : ah_M := (⟨"TrainLoadsModel", "patternFor", "(IIII)I"⟩, prog_9_method_15_code, 6, (some .int), [])
def mt_M_countOf : ah_M := (⟨"TrainLoadsModel", "countOf", "([III)I"⟩, prog_9_method_16_code, 6, (some .int), [])
def mt_M_isGood : ah_M := (⟨"TrainLoadsModel", "isGood", "(I)Z"⟩, prog_9_method_17_code, 6, (some .boolean), [])
def mt_M_mayBe : ah_M := (⟨"TrainLoadsModel", "mayBe", "()Z"⟩, prog_9_method_18_code, 6, (some .boolean), [])
def mt_M_used : ah_M := (⟨"TrainLoadsModel", "used", "()I"⟩, prog_9_method_19_code, 3, (some .int), [])
def mt_M_placeOf : ah_M := (⟨"TrainLoadsModel", "placeOf", "(I)I"⟩, prog_9_method_20_code, 4, (some .int), [])
def mt_M_boxAt : ah_M := (⟨"TrainLoadsModel", "boxAt", "(I)I"⟩, prog_9_method_21_code, 3, (some .int), [])
def mt_M_isAhead : ah_M := (⟨"TrainLoadsModel", "isAhead", "()Z"⟩, prog_9_method_22_code, 3, (some .boolean), [])
def mt_M_plan : ah_M := (⟨"TrainLoadsModel", "plan", "()I"⟩, prog_9_method_23_code, 6, (some .int), [])
def mt_M_patternOf : ah_M := (⟨"TrainLoadsModel", "patternOf", "(I)I"⟩, prog_9_method_24_code, 2, (some .int), [])
def mt_M_placeIn : ah_M := (⟨"TrainLoadsModel", "placeIn", "(I)I"⟩, prog_9_method_25_code, 7, (some .int), [])
def mt_M_at : ah_M := (⟨"TrainLoadsModel", "at", "(II)I"⟩, prog_9_method_26_code, 3, (some .int), [])
def mt_M_weightOn : ah_M := (⟨"TrainLoadsModel", "weightOn", "(I)J"⟩, prog_9_method_27_code, 5, (some .long), [])
def mt_M_load : ah_M := (⟨"TrainLoadsModel", "load", "(II)J"⟩, prog_9_method_28_code, 6, (some .long), [])
def mt_M_axle : ah_M := (⟨"TrainLoadsModel", "axle", "(II)J"⟩, prog_9_method_29_code, 3, (some .long), [])
def mt_M_standby : ah_M := (⟨"TrainLoadsModel", "standby", "(I)I"⟩, prog_9_method_30_code, 6, (some .int), [])
def mt_M_refused : ah_M := (⟨"TrainLoadsModel", "refused", "(I)I"⟩, prog_9_method_31_code, 7, (some .int), [])
def mt_M_together : ah_M := (⟨"TrainLoadsModel", "together", "(II)Z"⟩, prog_9_method_32_code, 3, (some .boolean), [])
def mt_M_count : ah_M := (⟨"TrainLoadsModel", "count", "(I)I"⟩, prog_9_method_33_code, 4, (some .int), [])
def mt_J_fill : ah_M := (⟨"java/util/Arrays", "fill", "([II)V"⟩, prog_20_method_103_code, 4, none, [])
end
section
/-! THE FIVE EXCEPTIONS that the class throws -/
section AhExc
variable {M : ah_M} {d : Nat} {A : Nat → Prop} {h : ah_H} {pc : Nat} {lv : List (Nat × Value)} {st : List Value}
theorem xo_90 : ∀ w ∈ ah_own "java/lang/IllegalArgumentException" ["java/lang/RuntimeException", "java/lang/Exception"], w ∈ ah_W ∨ w = .laysStatic "java/lang/Throwable" "UNASSIGNED_STACK" "[Ljava/lang/StackTraceElement;" ∨ w = .laysStatic "java/lang/Throwable" "SUPPRESSED_SENTINEL" "Ljava/util/List;" := by decide +kernel
theorem xo_91 : ∀ w ∈ ah_own "java/lang/IllegalStateException" ["java/lang/RuntimeException", "java/lang/Exception"], w ∈ ah_W ∨ w = .laysStatic "java/lang/Throwable" "UNASSIGNED_STACK" "[Ljava/lang/StackTraceElement;" ∨ w = .laysStatic "java/lang/Throwable" "SUPPRESSED_SENTINEL" "Ljava/util/List;" := by decide +kernel
theorem xo_92 : ∀ w ∈ ah_own "java/lang/IndexOutOfBoundsException" ["java/lang/RuntimeException", "java/lang/Exception"], w ∈ ah_W ∨ w = .laysStatic "java/lang/Throwable" "UNASSIGNED_STACK" "[Ljava/lang/StackTraceElement;" ∨ w = .laysStatic "java/lang/Throwable" "SUPPRESSED_SENTINEL" "Ljava/util/List;" := by decide +kernel
theorem xo_94 : ∀ w ∈ ah_own "java/lang/ArithmeticException" ["java/lang/RuntimeException", "java/lang/Exception"], w ∈ ah_W ∨ w = .laysStatic "java/lang/Throwable" "UNASSIGNED_STACK" "[Ljava/lang/StackTraceElement;" ∨ w = .laysStatic "java/lang/Throwable" "SUPPRESSED_SENTINEL" "Ljava/util/List;" := by decide +kernel
theorem xi_90 : Cond.initialized "java/lang/IllegalArgumentException" ∈ ah_W := ah_in (by decide +kernel) rfl
theorem xi_91 : Cond.initialized "java/lang/IllegalStateException" ∈ ah_W := ah_in (by decide +kernel) rfl
theorem xi_92 : Cond.initialized "java/lang/IndexOutOfBoundsException" ∈ ah_W := ah_in (by decide +kernel) rfl
theorem xi_93 : Cond.initialized "java/util/NoSuchElementException" ∈ ah_W := ah_in (by decide +kernel) rfl
theorem xi_94 : Cond.initialized "java/lang/ArithmeticException" ∈ ah_W := ah_in (by decide +kernel) rfl
theorem xo_93 : ∀ w ∈ ah_ownN "java/util/NoSuchElementException", w ∈ ah_W ∨ w = .laysStatic "java/lang/Throwable" "UNASSIGNED_STACK" "[Ljava/lang/StackTraceElement;" ∨ w = .laysStatic "java/lang/Throwable" "SUPPRESSED_SENTINEL" "Ljava/util/List;" := by decide +kernel
theorem e_throw90 {sc ic index : Nat} {text : String} (hA0 : ∀ q, ¬ A q) (hd9 : 8 ≤ d) (hs9 : ∃ a c, h.2.2 a = some (97, c)) (d0 : decode M.2.1 pc = .ok (.new index, 3)) (d3 : decode M.2.1 (pc + 3) = .ok (.dup, 1)) (d4 : decode M.2.1 (pc + 4) = .ok (.ldc sc, 2)) (d6 : decode M.2.1 (pc + 6) = .ok (.invokespecial ic, 3)) (d9 : decode M.2.1 (pc + 9) = .ok (.athrow, 1))
    (hcl : Cond.classLink M.1.cls index "java/lang/IllegalArgumentException" ∈ ah_W) (hsr : Cond.stringRef M.1.cls sc text ∈ ah_W) (hml : Cond.methodLink M.1.cls ic (Bundle.initS "java/lang/IllegalArgumentException") ∈ ah_W) (hnh : M.2.2.2.2 = []) (hst : (st.map fun v => v.category).sum ≤ 8 := by exact Nat.le_of_ble_eq_true rfl) :
    ah_At M d A h (.threw h.1) (ah_newx h 90) pc lv st h := ah_throw (t := 90) (nms := ["java/lang/RuntimeException", "java/lang/Exception"]) rfl (by decide +kernel) (by decide +kernel) (by decide) xo_90 xi_90 hA0 hd9 hs9 d0 d3 d4 d6 d9 hcl hsr hml hnh hst
theorem e_throw91 {sc ic index : Nat} {text : String} (hA0 : ∀ q, ¬ A q) (hd9 : 8 ≤ d) (hs9 : ∃ a c, h.2.2 a = some (97, c)) (d0 : decode M.2.1 pc = .ok (.new index, 3)) (d3 : decode M.2.1 (pc + 3) = .ok (.dup, 1)) (d4 : decode M.2.1 (pc + 4) = .ok (.ldc sc, 2)) (d6 : decode M.2.1 (pc + 6) = .ok (.invokespecial ic, 3)) (d9 : decode M.2.1 (pc + 9) = .ok (.athrow, 1))
    (hcl : Cond.classLink M.1.cls index "java/lang/IllegalStateException" ∈ ah_W) (hsr : Cond.stringRef M.1.cls sc text ∈ ah_W) (hml : Cond.methodLink M.1.cls ic (Bundle.initS "java/lang/IllegalStateException") ∈ ah_W) (hnh : M.2.2.2.2 = []) (hst : (st.map fun v => v.category).sum ≤ 8 := by exact Nat.le_of_ble_eq_true rfl) :
    ah_At M d A h (.threw h.1) (ah_newx h 91) pc lv st h := ah_throw (t := 91) (nms := ["java/lang/RuntimeException", "java/lang/Exception"]) rfl (by decide +kernel) (by decide +kernel) (by decide) xo_91 xi_91 hA0 hd9 hs9 d0 d3 d4 d6 d9 hcl hsr hml hnh hst
theorem e_throw92 {sc ic index : Nat} {text : String} (hA0 : ∀ q, ¬ A q) (hd9 : 8 ≤ d) (hs9 : ∃ a c, h.2.2 a = some (97, c)) (d0 : decode M.2.1 pc = .ok (.new index, 3)) (d3 : decode M.2.1 (pc + 3) = .ok (.dup, 1)) (d4 : decode M.2.1 (pc + 4) = .ok (.ldc sc, 2)) (d6 : decode M.2.1 (pc + 6) = .ok (.invokespecial ic, 3)) (d9 : decode M.2.1 (pc + 9) = .ok (.athrow, 1))
    (hcl : Cond.classLink M.1.cls index "java/lang/IndexOutOfBoundsException" ∈ ah_W) (hsr : Cond.stringRef M.1.cls sc text ∈ ah_W) (hml : Cond.methodLink M.1.cls ic (Bundle.initS "java/lang/IndexOutOfBoundsException") ∈ ah_W) (hnh : M.2.2.2.2 = []) (hst : (st.map fun v => v.category).sum ≤ 8 := by exact Nat.le_of_ble_eq_true rfl) :
    ah_At M d A h (.threw h.1) (ah_newx h 92) pc lv st h := ah_throw (t := 92) (nms := ["java/lang/RuntimeException", "java/lang/Exception"]) rfl (by decide +kernel) (by decide +kernel) (by decide) xo_92 xi_92 hA0 hd9 hs9 d0 d3 d4 d6 d9 hcl hsr hml hnh hst
theorem e_throw94 {sc ic index : Nat} {text : String} (hA0 : ∀ q, ¬ A q) (hd9 : 8 ≤ d) (hs9 : ∃ a c, h.2.2 a = some (97, c)) (d0 : decode M.2.1 pc = .ok (.new index, 3)) (d3 : decode M.2.1 (pc + 3) = .ok (.dup, 1)) (d4 : decode M.2.1 (pc + 4) = .ok (.ldc sc, 2)) (d6 : decode M.2.1 (pc + 6) = .ok (.invokespecial ic, 3)) (d9 : decode M.2.1 (pc + 9) = .ok (.athrow, 1))
    (hcl : Cond.classLink M.1.cls index "java/lang/ArithmeticException" ∈ ah_W) (hsr : Cond.stringRef M.1.cls sc text ∈ ah_W) (hml : Cond.methodLink M.1.cls ic (Bundle.initS "java/lang/ArithmeticException") ∈ ah_W) (hnh : M.2.2.2.2 = []) (hst : (st.map fun v => v.category).sum ≤ 8 := by exact Nat.le_of_ble_eq_true rfl) :
    ah_At M d A h (.threw h.1) (ah_newx h 94) pc lv st h := ah_throw (t := 94) (nms := ["java/lang/RuntimeException", "java/lang/Exception"]) rfl (by decide +kernel) (by decide +kernel) (by decide) xo_94 xi_94 hA0 hd9 hs9 d0 d3 d4 d6 d9 hcl hsr hml hnh hst
set_option maxHeartbeats 1000000 in
theorem e_throw93 {sc ic index : Nat} {text : String} (hA0 : ∀ q, ¬ A q) (hd9 : 8 ≤ d) (hs9 : ∃ a c, h.2.2 a = some (97, c)) (d0 : decode M.2.1 pc = .ok (.new index, 3)) (d3 : decode M.2.1 (pc + 3) = .ok (.dup, 1)) (d4 : decode M.2.1 (pc + 4) = .ok (.ldc sc, 2)) (d6 : decode M.2.1 (pc + 6) = .ok (.invokespecial ic, 3)) (d9 : decode M.2.1 (pc + 9) = .ok (.athrow, 1))
    (hcl : Cond.classLink M.1.cls index "java/util/NoSuchElementException" ∈ ah_W) (hsr : Cond.stringRef M.1.cls sc text ∈ ah_W) (hml : Cond.methodLink M.1.cls ic (Bundle.initS "java/util/NoSuchElementException") ∈ ah_W) (hnh : M.2.2.2.2 = []) (hst : (st.map fun v => v.category).sum ≤ 8 := by exact Nat.le_of_ble_eq_true rfl) :
    ah_At M d A h (.threw h.1) (ah_newx h 93) pc lv st h := by
  refine ⟨⟨by show h.1 ≤ h.1 + 1; omega, by show h.2.1 ≤ h.2.1 + 6; omega⟩, fun p l e R s m args below meth c D H locs cells slots ls X z0 r1 r2 r3 r4 hP hL hl' => ?_⟩
  have hc0 : cells = 0 := by omega
  have hs0 : slots = 0 := by omega
  have hlocs : locs = [] := List.eq_nil_iff_forall_not_mem.mpr (fun q hq => hA0 _ (hL q hq))
  subst hc0; subst hs0; subst hlocs
  obtain ⟨hexec, hb, hml0, hrt, hlocks, hname, hown, hex, hK, hfr, hlo, htr⟩ := X
  have r1' : h.1 + 1 ≤ h.1 + R.cells := r1
  have r2' : h.2.1 + 6 ≤ h.2.1 + R.slots := r2
  have hzs : s.heap.size = h.1 := z0.1
  have hzH : H.size = h.1 := hP.1
  obtain ⟨aS, cS, hS⟩ := hs9
  have hzz : ah_st2 s s.heap aS := by
    have h1 := z0.2 aS _ hS
    rw [ah_ok_z] at h1
    exact h1
  have hin : (Cond.instantiable "java/util/NoSuchElementException" 6).before args s = true := ah_wz hK hzz (xo_93 _ (by simp [ah_ownN]))
  obtain ⟨cX, kX, hfX, hkX, hord, -, -, hn6⟩ := Cond.instantiable_spec hin
  refine W.newcK hexec hb hown (hK.w hcl) hin (hK.w xi_93) rfl d0 (by omega) (by omega) hfX rfl fun H1 kC hkC e1 z1 o1 => ?_
  refine lv_dup hexec hb d3 rfl ?_
  obtain ⟨k', cf, i', am, -, -, -, -, -, hev⟩ := Cond.stringRef_spec hown (hK.w hsr (args := #[]))
  refine va_ldcS (q := am) (tx := text) hexec hb hown ⟨hK.w hsr, hev⟩ d4 ?_
  intro T hT Y
  have hadm := Y.admits
  have htr' : e.platform.stackTraces = false := by
    obtain ⟨-, -, -, -, hp, -⟩ := hadm
    rw [hp]
    exact htr
  obtain ⟨U, s1, s2, s3, s4, s5, ce, c1, c2, c3⟩ := ah_nse Y hexec htr' hown (E := "java/util/NoSuchElementException") (by decide +kernel) (fun w hw => ah_wz hK hzz (xo_93 w hw)) (hK.w hml) hzz.1.ref hzz.2.ref hfX hkC (by rw [hT]; exact e1) (a := H.size) (by omega) (msg := .ref am) rfl
    (g := F0 m (pc + 3 + 1 + 2) ls (.ref am :: .ref H.size :: .ref H.size :: st)) rfl (hl'.1.trans hml0.symm) rfl rfl (rest := st) rfl (by rw [hb]; exact d6) (by rw [hb]; exact d9) (fun x hx' => by
      have h9 : c.exceptionTable.toList = [] := by
        have := hex
        rw [hnh] at this
        exact List.map_eq_nil_iff.mp this
      rw [h9] at hx'
      cases hx') (by omega) (by
      have := lv_room (m := m) (pc := pc + 3 + 1 + 2) (ls := ls) (rest := .ref am :: .ref H.size :: .ref H.size :: st) hst
      show 2 * _ + (1 + (st.map fun v => v.category).sum) + _ ≤ _
      omega) hlocks
  refine ⟨U, s1, s2, ?_, ?_, [], ⟨s4, ?_⟩, fun q hq => by cases hq⟩
  · rw [← hzH]; exact s3
  · have hlt : H.size < U.heap.size := (Array.getElem?_eq_some_iff.mp c1).1
    have hsz : U.heap.size ≤ s.heap.size + (0 + 1) := s5.2.2.1
    refine ⟨by show U.heap.size = h.1 + 1; omega, fun q cq hq => ?_⟩
    by_cases hqe : q = h.1
    · subst hqe
      simp only [ah_newx, if_true] at hq
      cases hq
      rw [ah_ok_e (E := "java/util/NoSuchElementException") rfl]
      refine ⟨ce, by rw [← hzH]; exact c1, by rw [s4.alike.findClass]; exact c2, fun k hk => by rw [c3] at hk; cases hk⟩
    · simp only [ah_newx, if_neg hqe] at hq
      have h1 := z0.2 q _ hq
      exact (h1.kept (ah_same_old s5 h1.lt)).moved s4.alike
  · show s.sameButNew _ [] (h.1 + 1 - h.1) (h.2.1 + 6 - h.2.1)
    rw [show h.1 + 1 - h.1 = 0 + 1 by omega, show h.2.1 + 6 - h.2.1 = 0 + 6 by omega]
    exact s5
end AhExc
end

/-! NAMES: classes, their fields, methods as records. Printed by wip/names.py. -/
def kt0 : u_T := fun k => match k with
  | 0 => ("TrainLoads$Box", "size", "I", false)
  | 1 => ("TrainLoads$Box", "weight", "J", false)
  | 2 => ("TrainLoads$Box", "height", "I", false)
  | 3 => ("TrainLoads$Box", "danger", "I", false)
  | _ => ("TrainLoads$Box", "booked", "J", false)
def ky0 : Nat → FieldType := fun k => match k with
  | 0 => .int
  | 1 => .long
  | 2 => .int
  | 3 => .int
  | _ => .long
def kt1 : u_T := fun k => match k with
  | 0 => ("TrainLoads$Load", "boxesOfSize", "[I", true)
  | 1 => ("TrainLoads$Load", "boxesOfDanger", "[I", true)
  | 2 => ("TrainLoads$Load", "boxCount", "I", false)
  | 3 => ("TrainLoads$Load", "length", "I", false)
  | _ => ("TrainLoads$Load", "weight", "J", false)
def ky1 : Nat → FieldType := fun k => match k with
  | 0 => (.array .int)
  | 1 => (.array .int)
  | 2 => .int
  | 3 => .int
  | _ => .long
def kt2 : u_T := fun k => match k with
  | 0 => ("TrainLoads$Pattern", "sizeOfPlace", "[I", true)
  | 1 => ("TrainLoads$Pattern", "placesOfSize", "[I", true)
  | _ => ("TrainLoads$Pattern", "placeCount", "I", false)
def ky2 : Nat → FieldType := fun k => match k with
  | 0 => (.array .int)
  | 1 => (.array .int)
  | _ => .int
def kt3 : u_T := fun k => match k with
  | 0 => ("TrainLoads$Planner", "train", "LTrainLoads$Train;", true)
  | 1 => ("TrainLoads$Planner", "loads", "[LTrainLoads$Load;", true)
  | 2 => ("TrainLoads$Planner", "boxOfRank", "[I", true)
  | 3 => ("TrainLoads$Planner", "worth", "[I", true)
  | 4 => ("TrainLoads$Planner", "worthFrom", "[I", true)
  | 5 => ("TrainLoads$Planner", "tried", "[I", true)
  | 6 => ("TrainLoads$Planner", "best", "[I", true)
  | 7 => ("TrainLoads$Planner", "triedWorth", "I", false)
  | _ => ("TrainLoads$Planner", "bestWorth", "I", false)
def ky3 : Nat → FieldType := fun k => match k with
  | 0 => (.object "TrainLoads$Train")
  | 1 => (.array (.object "TrainLoads$Load"))
  | 2 => (.array .int)
  | 3 => (.array .int)
  | 4 => (.array .int)
  | 5 => (.array .int)
  | 6 => (.array .int)
  | 7 => .int
  | _ => .int
def kt4 : u_T := fun k => match k with
  | 0 => ("TrainLoads$Train", "wagons", "[LTrainLoads$Wagon;", true)
  | 1 => ("TrainLoads$Train", "wagonCount", "I", false)
  | 2 => ("TrainLoads$Train", "boxes", "[LTrainLoads$Box;", true)
  | 3 => ("TrainLoads$Train", "boxCount", "I", false)
  | 4 => ("TrainLoads$Train", "rules", "[[I", true)
  | _ => ("TrainLoads$Train", "cutOff", "J", false)
def ky4 : Nat → FieldType := fun k => match k with
  | 0 => (.array (.object "TrainLoads$Wagon"))
  | 1 => .int
  | 2 => (.array (.object "TrainLoads$Box"))
  | 3 => .int
  | 4 => (.array (.array .int))
  | _ => .long
def kt5 : u_T := fun k => match k with
  | 0 => ("TrainLoads$Wagon", "patterns", "[LTrainLoads$Pattern;", true)
  | 1 => ("TrainLoads$Wagon", "patternCount", "I", false)
  | 2 => ("TrainLoads$Wagon", "length", "I", false)
  | 3 => ("TrainLoads$Wagon", "mostWeight", "J", false)
  | 4 => ("TrainLoads$Wagon", "axles", "I", false)
  | 5 => ("TrainLoads$Wagon", "gauge", "I", false)
  | _ => ("TrainLoads$Wagon", "isOut", "Z", false)
def ky5 : Nat → FieldType := fun k => match k with
  | 0 => (.array (.object "TrainLoads$Pattern"))
  | 1 => .int
  | 2 => .int
  | 3 => .long
  | 4 => .int
  | 5 => .int
  | _ => .boolean
def kt6 : u_T := fun k => match k with
  | 0 => ("TrainLoads", "train", "LTrainLoads$Train;", true)
  | 1 => ("TrainLoads", "planner", "LTrainLoads$Planner;", true)
  | _ => ("TrainLoads", "planned", "Z", false)
def ky6 : Nat → FieldType := fun k => match k with
  | 0 => (.object "TrainLoads$Train")
  | 1 => (.object "TrainLoads$Planner")
  | _ => .boolean
def kt7 : u_T := fun k => match k with
  | 0 => ("TrainLoadsModel", "thrown", "I", false)
  | 1 => ("TrainLoadsModel", "wagons", "I", false)
  | 2 => ("TrainLoadsModel", "boxes", "I", false)
  | 3 => ("TrainLoadsModel", "length", "[I", true)
  | 4 => ("TrainLoadsModel", "most", "[J", true)
  | 5 => ("TrainLoadsModel", "axles", "[I", true)
  | 6 => ("TrainLoadsModel", "gauge", "[I", true)
  | 7 => ("TrainLoadsModel", "isOut", "[Z", true)
  | 8 => ("TrainLoadsModel", "patterns", "[I", true)
  | 9 => ("TrainLoadsModel", "sizesOf", "[I", true)
  | 10 => ("TrainLoadsModel", "size", "[I", true)
  | 11 => ("TrainLoadsModel", "weight", "[J", true)
  | 12 => ("TrainLoadsModel", "height", "[I", true)
  | 13 => ("TrainLoadsModel", "danger", "[I", true)
  | 14 => ("TrainLoadsModel", "booked", "[J", true)
  | 15 => ("TrainLoadsModel", "ruleOf", "[I", true)
  | 16 => ("TrainLoadsModel", "cutOff", "J", false)
  | 17 => ("TrainLoadsModel", "isPlan", "Z", false)
  | 18 => ("TrainLoadsModel", "tried", "[I", true)
  | 19 => ("TrainLoadsModel", "best", "[I", true)
  | _ => ("TrainLoadsModel", "bestLength", "I", false)
def ky7 : Nat → FieldType := fun k => match k with
  | 0 => .int
  | 1 => .int
  | 2 => .int
  | 3 => (.array .int)
  | 4 => (.array .long)
  | 5 => (.array .int)
  | 6 => (.array .int)
  | 7 => (.array .boolean)
  | 8 => (.array .int)
  | 9 => (.array .int)
  | 10 => (.array .int)
  | 11 => (.array .long)
  | 12 => (.array .int)
  | 13 => (.array .int)
  | 14 => (.array .long)
  | 15 => (.array .int)
  | 16 => .long
  | 17 => .boolean
  | 18 => (.array .int)
  | 19 => (.array .int)
  | _ => .int
def vwCl : List vw_C := [("TrainLoads$Box", kt0, 5), ("TrainLoads$Load", kt1, 5), ("TrainLoads$Pattern", kt2, 3), ("TrainLoads$Planner", kt3, 9), ("TrainLoads$Train", kt4, 6), ("TrainLoads$Wagon", kt5, 7), ("TrainLoads", kt6, 3), ("TrainLoadsModel", kt7, 21)]

/-! SWITCHES: a number in the table's range is one of the list -/
theorem ah_sw {x : Int32} {lo hi : Int} (L : List Int32) (y0 : ¬ (x.toInt < lo ∨ hi < x.toInt)) (hL : (List.range (hi - lo + 1).toNat).map (fun k : Nat => Int32.ofInt (lo + (k : Int))) = L) : x ∈ L := by
  rw [← hL]
  refine List.mem_map.mpr ⟨(x.toInt - lo).toNat, List.mem_range.mpr ?_, ?_⟩
  · omega
  · show Int32.ofInt (lo + (((x.toInt - lo).toNat : Nat) : Int)) = x
    rw [show lo + (((x.toInt - lo).toNat : Nat) : Int) = x.toInt by omega]
    exact Int32.ofInt_toInt x

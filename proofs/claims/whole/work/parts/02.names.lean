/-! names: classes, fields, methods; words of the tables by their places -/
def gtbl : List Cond := lw_tbl.filter goodWord
theorem gw {w : Cond} (i : Nat) (h : lw_tbl[i]? = some w) (hg : goodWord w = true) : w ∈ gtbl := List.mem_filter.mpr ⟨List.mem_of_getElem? h, hg⟩
def RFo : String := "TreeSteps$Forest"
def TFo : u_T := fun k => match k with
  | 0 => ("TreeSteps$Forest", "levels", "[[I", true)
  | 1 => ("TreeSteps$Forest", "knots", "[I", true)
  | 2 => ("TreeSteps$Forest", "symmetry", "[I", true)
  | 3 => ("TreeSteps$Forest", "density", "[I", true)
  | 4 => ("TreeSteps$Forest", "branches", "[I", true)
  | 5 => ("TreeSteps$Forest", "rest", "[I", true)
  | 6 => ("TreeSteps$Forest", "last", "[I", true)
  | 7 => ("TreeSteps$Forest", "hung", "[[I", true)
  | _ => ("TreeSteps$Forest", "codes", "[I", true)
def tyFo : Nat → FieldType := fun k => match k with
  | 0 => .array (.array (.int))
  | 1 => .array (.int)
  | 2 => .array (.int)
  | 3 => .array (.int)
  | 4 => .array (.int)
  | 5 => .array (.int)
  | 6 => .array (.int)
  | 7 => .array (.array (.int))
  | _ => .array (.int)
theorem nmFo : ∀ a, a < 9 → ∀ b, b < 9 → a ≠ b → (TFo a).2.1 ≠ (TFo b).2.1 := by decide +kernel
theorem tyFo_ok : ∀ k, k < 9 → parseFieldDescriptor (TFo k).2.2.1 = some (tyFo k) := by decide +kernel
theorem inFo : ∀ w ∈ u_ws RFo TFo 9, w ∈ gtbl := by
  intro w hw
  obtain ⟨k, hk, rfl⟩ := List.mem_map.mp hw
  have hk := List.mem_range.mp hk
  match k, hk with
  | 0, _ => exact (gw 153 (by decide +kernel) (by decide +kernel))
  | 1, _ => exact (gw 155 (by decide +kernel) (by decide +kernel))
  | 2, _ => exact (gw 157 (by decide +kernel) (by decide +kernel))
  | 3, _ => exact (gw 159 (by decide +kernel) (by decide +kernel))
  | 4, _ => exact (gw 161 (by decide +kernel) (by decide +kernel))
  | 5, _ => exact (gw 163 (by decide +kernel) (by decide +kernel))
  | 6, _ => exact (gw 165 (by decide +kernel) (by decide +kernel))
  | 7, _ => exact (gw 167 (by decide +kernel) (by decide +kernel))
  | 8, _ => exact (gw 169 (by decide +kernel) (by decide +kernel))
  | k + 9, h => exact absurd h (by omega)
def RKe : String := "TreeSteps$Keeping"
def TKe : u_T := fun k => match k with
  | 0 => ("TreeSteps$Table", "stages", "LTreeSteps$Stages;", true)
  | 1 => ("TreeSteps$Table", "weights", "[I", true)
  | 2 => ("TreeSteps$Table", "misfit", "I", true)
  | _ => ("TreeSteps$Table", "reached", "I", true)
def tyKe : Nat → FieldType := fun k => match k with
  | 0 => .object "TreeSteps$Stages"
  | 1 => .array (.int)
  | 2 => .int
  | _ => .int
theorem nmKe : ∀ a, a < 4 → ∀ b, b < 4 → a ≠ b → (TKe a).2.1 ≠ (TKe b).2.1 := by decide +kernel
theorem tyKe_ok : ∀ k, k < 4 → parseFieldDescriptor (TKe k).2.2.1 = some (tyKe k) := by decide +kernel
theorem inKe : ∀ w ∈ u_ws RKe TKe 4, w ∈ gtbl := by
  intro w hw
  obtain ⟨k, hk, rfl⟩ := List.mem_map.mp hw
  have hk := List.mem_range.mp hk
  match k, hk with
  | 0, _ => exact (gw 484 (by decide +kernel) (by decide +kernel))
  | 1, _ => exact (gw 485 (by decide +kernel) (by decide +kernel))
  | 2, _ => exact (gw 486 (by decide +kernel) (by decide +kernel))
  | 3, _ => exact (gw 487 (by decide +kernel) (by decide +kernel))
  | k + 4, h => exact absurd h (by omega)
def RLo : String := "TreeSteps$Lower"
def TLo : u_T := fun k => match k with
  | 0 => ("TreeSteps$Table", "stages", "LTreeSteps$Stages;", true)
  | 1 => ("TreeSteps$Table", "weights", "[I", true)
  | 2 => ("TreeSteps$Table", "misfit", "I", true)
  | _ => ("TreeSteps$Table", "reached", "I", true)
def tyLo : Nat → FieldType := fun k => match k with
  | 0 => .object "TreeSteps$Stages"
  | 1 => .array (.int)
  | 2 => .int
  | _ => .int
theorem nmLo : ∀ a, a < 4 → ∀ b, b < 4 → a ≠ b → (TLo a).2.1 ≠ (TLo b).2.1 := by decide +kernel
theorem tyLo_ok : ∀ k, k < 4 → parseFieldDescriptor (TLo k).2.2.1 = some (tyLo k) := by decide +kernel
theorem inLo : ∀ w ∈ u_ws RLo TLo 4, w ∈ gtbl := by
  intro w hw
  obtain ⟨k, hk, rfl⟩ := List.mem_map.mp hw
  have hk := List.mem_range.mp hk
  match k, hk with
  | 0, _ => exact (gw 492 (by decide +kernel) (by decide +kernel))
  | 1, _ => exact (gw 493 (by decide +kernel) (by decide +kernel))
  | 2, _ => exact (gw 494 (by decide +kernel) (by decide +kernel))
  | 3, _ => exact (gw 495 (by decide +kernel) (by decide +kernel))
  | k + 4, h => exact absurd h (by omega)
def RMo : String := "TreeSteps$Modulus"
def TMo : u_T := fun k => match k with
  | _ => ("TreeSteps$Modulus", "p", "J", true)
def tyMo : Nat → FieldType := fun k => match k with
  | _ => .long
theorem nmMo : ∀ a, a < 1 → ∀ b, b < 1 → a ≠ b → (TMo a).2.1 ≠ (TMo b).2.1 := by decide +kernel
theorem tyMo_ok : ∀ k, k < 1 → parseFieldDescriptor (TMo k).2.2.1 = some (tyMo k) := by decide +kernel
theorem inMo : ∀ w ∈ u_ws RMo TMo 1, w ∈ gtbl := by
  intro w hw
  obtain ⟨k, hk, rfl⟩ := List.mem_map.mp hw
  have hk := List.mem_range.mp hk
  match k, hk with
  | 0, _ => exact (gw 86 (by decide +kernel) (by decide +kernel))
  | k + 1, h => exact absurd h (by omega)
def RPl : String := "TreeSteps$Plain"
def TPl : u_T := fun k => match k with
  | 0 => ("TreeSteps$Table", "stages", "LTreeSteps$Stages;", true)
  | 1 => ("TreeSteps$Table", "weights", "[I", true)
  | 2 => ("TreeSteps$Table", "misfit", "I", true)
  | _ => ("TreeSteps$Table", "reached", "I", true)
def tyPl : Nat → FieldType := fun k => match k with
  | 0 => .object "TreeSteps$Stages"
  | 1 => .array (.int)
  | 2 => .int
  | _ => .int
theorem nmPl : ∀ a, a < 4 → ∀ b, b < 4 → a ≠ b → (TPl a).2.1 ≠ (TPl b).2.1 := by decide +kernel
theorem tyPl_ok : ∀ k, k < 4 → parseFieldDescriptor (TPl k).2.2.1 = some (tyPl k) := by decide +kernel
theorem inPl : ∀ w ∈ u_ws RPl TPl 4, w ∈ gtbl := by
  intro w hw
  obtain ⟨k, hk, rfl⟩ := List.mem_map.mp hw
  have hk := List.mem_range.mp hk
  match k, hk with
  | 0, _ => exact (gw 462 (by decide +kernel) (by decide +kernel))
  | 1, _ => exact (gw 464 (by decide +kernel) (by decide +kernel))
  | 2, _ => exact (gw 466 (by decide +kernel) (by decide +kernel))
  | 3, _ => exact (gw 468 (by decide +kernel) (by decide +kernel))
  | k + 4, h => exact absurd h (by omega)
def RSh : String := "TreeSteps$Shares"
def TSh : u_T := fun k => match k with
  | 0 => ("TreeSteps$Shares", "mod", "LTreeSteps$Modulus;", true)
  | 1 => ("TreeSteps$Shares", "factor", "[J", true)
  | _ => ("TreeSteps$Shares", "product", "[J", true)
def tySh : Nat → FieldType := fun k => match k with
  | 0 => .object "TreeSteps$Modulus"
  | 1 => .array (.long)
  | _ => .array (.long)
theorem nmSh : ∀ a, a < 3 → ∀ b, b < 3 → a ≠ b → (TSh a).2.1 ≠ (TSh b).2.1 := by decide +kernel
theorem tySh_ok : ∀ k, k < 3 → parseFieldDescriptor (TSh k).2.2.1 = some (tySh k) := by decide +kernel
theorem inSh : ∀ w ∈ u_ws RSh TSh 3, w ∈ gtbl := by
  intro w hw
  obtain ⟨k, hk, rfl⟩ := List.mem_map.mp hw
  have hk := List.mem_range.mp hk
  match k, hk with
  | 0, _ => exact (gw 202 (by decide +kernel) (by decide +kernel))
  | 1, _ => exact (gw 204 (by decide +kernel) (by decide +kernel))
  | 2, _ => exact (gw 206 (by decide +kernel) (by decide +kernel))
  | k + 3, h => exact absurd h (by omega)
def RSt : String := "TreeSteps$Sheet"
def TSt : u_T := fun k => match k with
  | 0 => ("TreeSteps$Sheet", "items", "[J", true)
  | 1 => ("TreeSteps$Sheet", "lane", "I", false)
  | _ => ("TreeSteps$Sheet", "length", "I", false)
def tySt : Nat → FieldType := fun k => match k with
  | 0 => .array (.long)
  | 1 => .int
  | _ => .int
theorem nmSt : ∀ a, a < 3 → ∀ b, b < 3 → a ≠ b → (TSt a).2.1 ≠ (TSt b).2.1 := by decide +kernel
theorem tySt_ok : ∀ k, k < 3 → parseFieldDescriptor (TSt k).2.2.1 = some (tySt k) := by decide +kernel
theorem inSt : ∀ w ∈ u_ws RSt TSt 3, w ∈ gtbl := by
  intro w hw
  obtain ⟨k, hk, rfl⟩ := List.mem_map.mp hw
  have hk := List.mem_range.mp hk
  match k, hk with
  | 0, _ => exact (gw 237 (by decide +kernel) (by decide +kernel))
  | 1, _ => exact (gw 239 (by decide +kernel) (by decide +kernel))
  | 2, _ => exact (gw 241 (by decide +kernel) (by decide +kernel))
  | k + 3, h => exact absurd h (by omega)
def RSg : String := "TreeSteps$Stages"
def TSg : u_T := fun k => match k with
  | 0 => ("TreeSteps$Stages", "count", "I", true)
  | _ => ("TreeSteps$Stages", "row", "[I", true)
def tySg : Nat → FieldType := fun k => match k with
  | 0 => .int
  | _ => .array (.int)
theorem nmSg : ∀ a, a < 2 → ∀ b, b < 2 → a ≠ b → (TSg a).2.1 ≠ (TSg b).2.1 := by decide +kernel
theorem tySg_ok : ∀ k, k < 2 → parseFieldDescriptor (TSg k).2.2.1 = some (tySg k) := by decide +kernel
theorem inSg : ∀ w ∈ u_ws RSg TSg 2, w ∈ gtbl := by
  intro w hw
  obtain ⟨k, hk, rfl⟩ := List.mem_map.mp hw
  have hk := List.mem_range.mp hk
  match k, hk with
  | 0, _ => exact (gw 370 (by decide +kernel) (by decide +kernel))
  | 1, _ => exact (gw 372 (by decide +kernel) (by decide +kernel))
  | k + 2, h => exact absurd h (by omega)
def RTa : String := "TreeSteps$Table"
def TTa : u_T := fun k => match k with
  | 0 => ("TreeSteps$Table", "stages", "LTreeSteps$Stages;", true)
  | 1 => ("TreeSteps$Table", "weights", "[I", true)
  | 2 => ("TreeSteps$Table", "misfit", "I", true)
  | _ => ("TreeSteps$Table", "reached", "I", true)
def tyTa : Nat → FieldType := fun k => match k with
  | 0 => .object "TreeSteps$Stages"
  | 1 => .array (.int)
  | 2 => .int
  | _ => .int
theorem nmTa : ∀ a, a < 4 → ∀ b, b < 4 → a ≠ b → (TTa a).2.1 ≠ (TTa b).2.1 := by decide +kernel
theorem tyTa_ok : ∀ k, k < 4 → parseFieldDescriptor (TTa k).2.2.1 = some (tyTa k) := by decide +kernel
theorem inTa : ∀ w ∈ u_ws RTa TTa 4, w ∈ gtbl := by
  intro w hw
  obtain ⟨k, hk, rfl⟩ := List.mem_map.mp hw
  have hk := List.mem_range.mp hk
  match k, hk with
  | 0, _ => exact (gw 499 (by decide +kernel) (by decide +kernel))
  | 1, _ => exact (gw 500 (by decide +kernel) (by decide +kernel))
  | 2, _ => exact (gw 501 (by decide +kernel) (by decide +kernel))
  | 3, _ => exact (gw 502 (by decide +kernel) (by decide +kernel))
  | k + 4, h => exact absurd h (by omega)
def RTr : String := "TreeSteps$Trace"
def TTr : u_T := fun k => match k with
  | 0 => ("TreeSteps$Trace", "numbers", "[I", true)
  | _ => ("TreeSteps$Trace", "length", "I", false)
def tyTr : Nat → FieldType := fun k => match k with
  | 0 => .array (.int)
  | _ => .int
theorem nmTr : ∀ a, a < 2 → ∀ b, b < 2 → a ≠ b → (TTr a).2.1 ≠ (TTr b).2.1 := by decide +kernel
theorem tyTr_ok : ∀ k, k < 2 → parseFieldDescriptor (TTr k).2.2.1 = some (tyTr k) := by decide +kernel
theorem inTr : ∀ w ∈ u_ws RTr TTr 2, w ∈ gtbl := by
  intro w hw
  obtain ⟨k, hk, rfl⟩ := List.mem_map.mp hw
  have hk := List.mem_range.mp hk
  match k, hk with
  | 0, _ => exact (gw 219 (by decide +kernel) (by decide +kernel))
  | 1, _ => exact (gw 221 (by decide +kernel) (by decide +kernel))
  | k + 2, h => exact absurd h (by omega)
def RWe : String := "TreeSteps$Weigher"
def TWe : u_T := fun k => match k with
  | 0 => ("TreeSteps$Weigher", "mod", "LTreeSteps$Modulus;", true)
  | 1 => ("TreeSteps$Weigher", "forest", "LTreeSteps$Forest;", true)
  | 2 => ("TreeSteps$Weigher", "rooted", "[J", true)
  | _ => ("TreeSteps$Weigher", "hanging", "[J", true)
def tyWe : Nat → FieldType := fun k => match k with
  | 0 => .object "TreeSteps$Modulus"
  | 1 => .object "TreeSteps$Forest"
  | 2 => .array (.long)
  | _ => .array (.long)
theorem nmWe : ∀ a, a < 4 → ∀ b, b < 4 → a ≠ b → (TWe a).2.1 ≠ (TWe b).2.1 := by decide +kernel
theorem tyWe_ok : ∀ k, k < 4 → parseFieldDescriptor (TWe k).2.2.1 = some (tyWe k) := by decide +kernel
theorem inWe : ∀ w ∈ u_ws RWe TWe 4, w ∈ gtbl := by
  intro w hw
  obtain ⟨k, hk, rfl⟩ := List.mem_map.mp hw
  have hk := List.mem_range.mp hk
  match k, hk with
  | 0, _ => exact (gw 183 (by decide +kernel) (by decide +kernel))
  | 1, _ => exact (gw 185 (by decide +kernel) (by decide +kernel))
  | 2, _ => exact (gw 187 (by decide +kernel) (by decide +kernel))
  | 3, _ => exact (gw 189 (by decide +kernel) (by decide +kernel))
  | k + 4, h => exact absurd h (by omega)
def RX : String := "TreeSteps"
def TX : u_T := fun k => match k with
  | 0 => ("TreeSteps", "mod", "LTreeSteps$Modulus;", true)
  | 1 => ("TreeSteps", "forest", "LTreeSteps$Forest;", true)
  | 2 => ("TreeSteps", "weigher", "LTreeSteps$Weigher;", true)
  | 3 => ("TreeSteps", "shares", "LTreeSteps$Shares;", true)
  | 4 => ("TreeSteps", "traced", "LTreeSteps$Trace;", true)
  | 5 => ("TreeSteps", "sheets", "[LTreeSteps$Sheet;", true)
  | 6 => ("TreeSteps", "shelf", "[LTreeSteps$Table;", true)
  | 7 => ("TreeSteps", "offsets", "[J", true)
  | _ => ("TreeSteps", "latestFinding", "I", false)
def tyX : Nat → FieldType := fun k => match k with
  | 0 => .object "TreeSteps$Modulus"
  | 1 => .object "TreeSteps$Forest"
  | 2 => .object "TreeSteps$Weigher"
  | 3 => .object "TreeSteps$Shares"
  | 4 => .object "TreeSteps$Trace"
  | 5 => .array (.object "TreeSteps$Sheet")
  | 6 => .array (.object "TreeSteps$Table")
  | 7 => .array (.long)
  | _ => .int
theorem nmX : ∀ a, a < 9 → ∀ b, b < 9 → a ≠ b → (TX a).2.1 ≠ (TX b).2.1 := by decide +kernel
theorem tyX_ok : ∀ k, k < 9 → parseFieldDescriptor (TX k).2.2.1 = some (tyX k) := by decide +kernel
theorem inX : ∀ w ∈ u_ws RX TX 9, w ∈ gtbl := by
  intro w hw
  obtain ⟨k, hk, rfl⟩ := List.mem_map.mp hw
  have hk := List.mem_range.mp hk
  match k, hk with
  | 0, _ => exact (gw 255 (by decide +kernel) (by decide +kernel))
  | 1, _ => exact (gw 257 (by decide +kernel) (by decide +kernel))
  | 2, _ => exact (gw 259 (by decide +kernel) (by decide +kernel))
  | 3, _ => exact (gw 261 (by decide +kernel) (by decide +kernel))
  | 4, _ => exact (gw 263 (by decide +kernel) (by decide +kernel))
  | 5, _ => exact (gw 265 (by decide +kernel) (by decide +kernel))
  | 6, _ => exact (gw 267 (by decide +kernel) (by decide +kernel))
  | 7, _ => exact (gw 269 (by decide +kernel) (by decide +kernel))
  | 8, _ => exact (gw 271 (by decide +kernel) (by decide +kernel))
  | k + 9, h => exact absurd h (by omega)
def RM : String := "TreeStepsModel"
def TM : u_T := fun k => match k with
  | 0 => ("TreeStepsModel", "thrown", "I", false)
  | 1 => ("TreeStepsModel", "status", "I", false)
  | 2 => ("TreeStepsModel", "prime", "I", true)
  | 3 => ("TreeStepsModel", "knots", "[I", true)
  | 4 => ("TreeStepsModel", "level", "[I", true)
  | 5 => ("TreeStepsModel", "own", "[I", true)
  | 6 => ("TreeStepsModel", "lane", "[I", true)
  | 7 => ("TreeStepsModel", "many", "[I", true)
  | 8 => ("TreeStepsModel", "item", "[J", true)
  | 9 => ("TreeStepsModel", "stages", "[I", true)
  | 10 => ("TreeStepsModel", "a", "[J", true)
  | 11 => ("TreeStepsModel", "b", "[J", true)
  | 12 => ("TreeStepsModel", "trace", "[I", true)
  | 13 => ("TreeStepsModel", "traced", "I", false)
  | 14 => ("TreeStepsModel", "comes", "[J", true)
  | 15 => ("TreeStepsModel", "matrix", "[J", true)
  | 16 => ("TreeStepsModel", "powers", "[J", true)
  | 17 => ("TreeStepsModel", "next", "[J", true)
  | 18 => ("TreeStepsModel", "traces", "[J", true)
  | _ => ("TreeStepsModel", "share", "[J", true)
def tyM : Nat → FieldType := fun k => match k with
  | 0 => .int
  | 1 => .int
  | 2 => .int
  | 3 => .array (.int)
  | 4 => .array (.int)
  | 5 => .array (.int)
  | 6 => .array (.int)
  | 7 => .array (.int)
  | 8 => .array (.long)
  | 9 => .array (.int)
  | 10 => .array (.long)
  | 11 => .array (.long)
  | 12 => .array (.int)
  | 13 => .int
  | 14 => .array (.long)
  | 15 => .array (.long)
  | 16 => .array (.long)
  | 17 => .array (.long)
  | 18 => .array (.long)
  | _ => .array (.long)
theorem nmM : ∀ a, a < 20 → ∀ b, b < 20 → a ≠ b → (TM a).2.1 ≠ (TM b).2.1 := by decide +kernel
theorem tyM_ok : ∀ k, k < 20 → parseFieldDescriptor (TM k).2.2.1 = some (tyM k) := by decide +kernel
theorem inM : ∀ w ∈ u_ws RM TM 20, w ∈ gtbl := by
  intro w hw
  obtain ⟨k, hk, rfl⟩ := List.mem_map.mp hw
  have hk := List.mem_range.mp hk
  match k, hk with
  | 0, _ => exact (gw 750 (by decide +kernel) (by decide +kernel))
  | 1, _ => exact (gw 752 (by decide +kernel) (by decide +kernel))
  | 2, _ => exact (gw 754 (by decide +kernel) (by decide +kernel))
  | 3, _ => exact (gw 756 (by decide +kernel) (by decide +kernel))
  | 4, _ => exact (gw 758 (by decide +kernel) (by decide +kernel))
  | 5, _ => exact (gw 760 (by decide +kernel) (by decide +kernel))
  | 6, _ => exact (gw 762 (by decide +kernel) (by decide +kernel))
  | 7, _ => exact (gw 764 (by decide +kernel) (by decide +kernel))
  | 8, _ => exact (gw 766 (by decide +kernel) (by decide +kernel))
  | 9, _ => exact (gw 768 (by decide +kernel) (by decide +kernel))
  | 10, _ => exact (gw 770 (by decide +kernel) (by decide +kernel))
  | 11, _ => exact (gw 772 (by decide +kernel) (by decide +kernel))
  | 12, _ => exact (gw 774 (by decide +kernel) (by decide +kernel))
  | 13, _ => exact (gw 776 (by decide +kernel) (by decide +kernel))
  | 14, _ => exact (gw 778 (by decide +kernel) (by decide +kernel))
  | 15, _ => exact (gw 780 (by decide +kernel) (by decide +kernel))
  | 16, _ => exact (gw 782 (by decide +kernel) (by decide +kernel))
  | 17, _ => exact (gw 784 (by decide +kernel) (by decide +kernel))
  | 18, _ => exact (gw 786 (by decide +kernel) (by decide +kernel))
  | 19, _ => exact (gw 788 (by decide +kernel) (by decide +kernel))
  | k + 20, h => exact absurd h (by omega)
abbrev classes : List vw_C := [(RFo, TFo, 9), (RKe, TKe, 4), (RLo, TLo, 4), (RMo, TMo, 1), (RPl, TPl, 4), (RSh, TSh, 3), (RSt, TSt, 3), (RSg, TSg, 2), (RTa, TTa, 4), (RTr, TTr, 2), (RWe, TWe, 4), (RX, TX, 9), (RM, TM, 20)]
def yX_init : MethodName := ⟨"TreeSteps", "<init>", "(I)V"⟩
abbrev cX_init : ByteArray := prog_1_method_1_code
def yX_sheet : MethodName := ⟨"TreeSteps", "sheet", "(III)I"⟩
abbrev cX_sheet : ByteArray := prog_1_method_2_code
def yX_set : MethodName := ⟨"TreeSteps", "set", "(IIJ)J"⟩
abbrev cX_set : ByteArray := prog_1_method_3_code
def yX_copy : MethodName := ⟨"TreeSteps", "copy", "(IIIII)I"⟩
abbrev cX_copy : ByteArray := prog_1_method_4_code
def yX_drop : MethodName := ⟨"TreeSteps", "drop", "(I)I"⟩
abbrev cX_drop : ByteArray := prog_1_method_5_code
def yX_trees : MethodName := ⟨"TreeSteps", "trees", "(I)I"⟩
abbrev cX_trees : ByteArray := prog_1_method_6_code
def yX_tree : MethodName := ⟨"TreeSteps", "tree", "(II)I"⟩
abbrev cX_tree : ByteArray := prog_1_method_7_code
def yX_level : MethodName := ⟨"TreeSteps", "level", "(II)I"⟩
abbrev cX_level : ByteArray := prog_1_method_8_code
def yX_hang : MethodName := ⟨"TreeSteps", "hang", "(II)I"⟩
abbrev cX_hang : ByteArray := prog_1_method_9_code
def yX_table : MethodName := ⟨"TreeSteps", "table", "(IIII)I"⟩
abbrev cX_table : ByteArray := prog_1_method_10_code
def yX_behind : MethodName := ⟨"TreeSteps", "behind", "(III)I"⟩
abbrev cX_behind : ByteArray := prog_1_method_11_code
def yX_turn : MethodName := ⟨"TreeSteps", "turn", "(III)I"⟩
abbrev cX_turn : ByteArray := prog_1_method_12_code
def yX_scale : MethodName := ⟨"TreeSteps", "scale", "(III)I"⟩
abbrev cX_scale : ByteArray := prog_1_method_13_code
def yX_clear : MethodName := ⟨"TreeSteps", "clear", "(I)I"⟩
abbrev cX_clear : ByteArray := prog_1_method_14_code
def yX_number : MethodName := ⟨"TreeSteps", "number", "(III)I"⟩
abbrev cX_number : ByteArray := prog_1_method_15_code
def yX_kind : MethodName := ⟨"TreeSteps", "kind", "(I)I"⟩
abbrev cX_kind : ByteArray := prog_1_method_16_code
def yX_is : MethodName := ⟨"TreeSteps", "is", "(II)I"⟩
abbrev cX_is : ByteArray := prog_1_method_17_code
def yX_as : MethodName := ⟨"TreeSteps", "as", "(II)I"⟩
abbrev cX_as : ByteArray := prog_1_method_18_code
def yX_ask : MethodName := ⟨"TreeSteps", "ask", "(II)I"⟩
abbrev cX_ask : ByteArray := prog_1_method_19_code
def yX_trace : MethodName := ⟨"TreeSteps", "trace", "(I)I"⟩
abbrev cX_trace : ByteArray := prog_1_method_20_code
def yX_weight : MethodName := ⟨"TreeSteps", "weight", "(II)I"⟩
abbrev cX_weight : ByteArray := prog_1_method_21_code
def yX_order : MethodName := ⟨"TreeSteps", "order", "(II)I"⟩
abbrev cX_order : ByteArray := prog_1_method_22_code
def yX_share : MethodName := ⟨"TreeSteps", "share", "(III)I"⟩
abbrev cX_share : ByteArray := prog_1_method_23_code
def yX_ride : MethodName := ⟨"TreeSteps", "ride", "(IIII)I"⟩
abbrev cX_ride : ByteArray := prog_1_method_24_code
def yX_alike : MethodName := ⟨"TreeSteps", "alike", "(III)I"⟩
abbrev cX_alike : ByteArray := prog_1_method_25_code
def yX_count : MethodName := ⟨"TreeSteps", "count", "(I)I"⟩
abbrev cX_count : ByteArray := prog_1_method_26_code
def yX_status : MethodName := ⟨"TreeSteps", "status", "()I"⟩
abbrev cX_status : ByteArray := prog_1_method_27_code
def yX_noSheet : MethodName := ⟨"TreeSteps", "noSheet", "(I)Z"⟩
abbrev cX_noSheet : ByteArray := prog_1_method_28_code
def yX_noPlace : MethodName := ⟨"TreeSteps", "noPlace", "(I)Z"⟩
abbrev cX_noPlace : ByteArray := prog_1_method_29_code
def yX_noTree : MethodName := ⟨"TreeSteps", "noTree", "(I)Z"⟩
abbrev cX_noTree : ByteArray := prog_1_method_30_code
def yX_noKind : MethodName := ⟨"TreeSteps", "noKind", "(I)Z"⟩
abbrev cX_noKind : ByteArray := prog_1_method_31_code
def yX_found : MethodName := ⟨"TreeSteps", "found", "(I)I"⟩
abbrev cX_found : ByteArray := prog_1_method_32_code
def yX_well : MethodName := ⟨"TreeSteps", "well", "(I)I"⟩
abbrev cX_well : ByteArray := prog_1_method_33_code
def yX_readFractions : MethodName := ⟨"TreeSteps", "readFractions", "(LTreeSteps$Sheet;I[I)Z"⟩
abbrev cX_readFractions : ByteArray := prog_1_method_34_code
def yX_joined : MethodName := ⟨"TreeSteps", "joined", "(LTreeSteps$Stages;LTreeSteps$Stages;)LTreeSteps$Stages;"⟩
abbrev cX_joined : ByteArray := prog_1_method_35_code
def yX_undone : MethodName := ⟨"TreeSteps", "undone", "(LTreeSteps$Stages;)LTreeSteps$Stages;"⟩
abbrev cX_undone : ByteArray := prog_1_method_36_code
def yX_turned : MethodName := ⟨"TreeSteps", "turned", "(LTreeSteps$Stages;)LTreeSteps$Stages;"⟩
abbrev cX_turned : ByteArray := prog_1_method_37_code
def yX_scaled : MethodName := ⟨"TreeSteps", "scaled", "(LTreeSteps$Stages;I)LTreeSteps$Stages;"⟩
abbrev cX_scaled : ByteArray := prog_1_method_38_code
def yX_shelve : MethodName := ⟨"TreeSteps", "shelve", "(ILTreeSteps$Stages;)I"⟩
abbrev cX_shelve : ByteArray := prog_1_method_39_code
def yX_toldTable : MethodName := ⟨"TreeSteps", "toldTable", "(LTreeSteps$Stages;[I)LTreeSteps$Table;"⟩
abbrev cX_toldTable : ByteArray := prog_1_method_40_code
def yX_firstMisfit : MethodName := ⟨"TreeSteps", "firstMisfit", "([I)I"⟩
abbrev cX_firstMisfit : ByteArray := prog_1_method_41_code
def yX_keeps : MethodName := ⟨"TreeSteps", "keeps", "(LTreeSteps$Stages;)Z"⟩
abbrev cX_keeps : ByteArray := prog_1_method_42_code
def yX_belongs : MethodName := ⟨"TreeSteps", "belongs", "(LTreeSteps$Table;I)Z"⟩
abbrev cX_belongs : ByteArray := prog_1_method_43_code
def yX_ridden : MethodName := ⟨"TreeSteps", "ridden", "(LTreeSteps$Stages;III)J"⟩
abbrev cX_ridden : ByteArray := prog_1_method_44_code
def yX_rowSum : MethodName := ⟨"TreeSteps", "rowSum", "(LTreeSteps$Stages;I)J"⟩
abbrev cX_rowSum : ByteArray := prog_1_method_45_code
def yX_sameWeights : MethodName := ⟨"TreeSteps", "sameWeights", "([I[II)Z"⟩
abbrev cX_sameWeights : ByteArray := prog_1_method_46_code
def yX_sheetsThere : MethodName := ⟨"TreeSteps", "sheetsThere", "()I"⟩
abbrev cX_sheetsThere : ByteArray := prog_1_method_47_code
def yX_tablesOf : MethodName := ⟨"TreeSteps", "tablesOf", "(I)I"⟩
abbrev cX_tablesOf : ByteArray := prog_1_method_48_code
def yM_in : MethodName := ⟨"TreeStepsModel", "in", "(JJJ)Z"⟩
abbrev cM_in : ByteArray := prog_14_method_2_code
def yM_found : MethodName := ⟨"TreeStepsModel", "found", "(I)I"⟩
abbrev cM_found : ByteArray := prog_14_method_3_code
def yM_isPrime : MethodName := ⟨"TreeStepsModel", "isPrime", "(I)Z"⟩
abbrev cM_isPrime : ByteArray := prog_14_method_4_code
def yM_init : MethodName := ⟨"TreeStepsModel", "<init>", "(I)V"⟩
abbrev cM_init : ByteArray := prog_14_method_5_code
def yM_follow : MethodName := ⟨"TreeStepsModel", "follow", "(I)Z"⟩
abbrev cM_follow : ByteArray := prog_14_method_6_code
def yM_isTree : MethodName := ⟨"TreeStepsModel", "isTree", "(I)Z"⟩
abbrev cM_isTree : ByteArray := prog_14_method_7_code
def yM_trees : MethodName := ⟨"TreeStepsModel", "trees", "(I)I"⟩
abbrev cM_trees : ByteArray := prog_14_method_8_code
def yM_endOf : MethodName := ⟨"TreeStepsModel", "endOf", "(II)I"⟩
abbrev cM_endOf : ByteArray := prog_14_method_9_code
def yM_symmetry : MethodName := ⟨"TreeStepsModel", "symmetry", "(I)I"⟩
abbrev cM_symmetry : ByteArray := prog_14_method_10_code
def yM_density : MethodName := ⟨"TreeStepsModel", "density", "(I)I"⟩
abbrev cM_density : ByteArray := prog_14_method_11_code
def yM_tree : MethodName := ⟨"TreeStepsModel", "tree", "(II)I"⟩
abbrev cM_tree : ByteArray := prog_14_method_12_code
def yM_level : MethodName := ⟨"TreeStepsModel", "level", "(II)I"⟩
abbrev cM_level : ByteArray := prog_14_method_13_code
def yM_hang : MethodName := ⟨"TreeStepsModel", "hang", "(II)I"⟩
abbrev cM_hang : ByteArray := prog_14_method_14_code
def yM_isGreater : MethodName := ⟨"TreeStepsModel", "isGreater", "(IIII)Z"⟩
abbrev cM_isGreater : ByteArray := prog_14_method_15_code
def yM_isSheet : MethodName := ⟨"TreeStepsModel", "isSheet", "(I)Z"⟩
abbrev cM_isSheet : ByteArray := prog_14_method_16_code
def yM_sheet : MethodName := ⟨"TreeStepsModel", "sheet", "(III)I"⟩
abbrev cM_sheet : ByteArray := prog_14_method_17_code
def yM_set : MethodName := ⟨"TreeStepsModel", "set", "(IIJ)J"⟩
abbrev cM_set : ByteArray := prog_14_method_18_code
def yM_copy : MethodName := ⟨"TreeStepsModel", "copy", "(IIIII)I"⟩
abbrev cM_copy : ByteArray := prog_14_method_19_code
def yM_drop : MethodName := ⟨"TreeStepsModel", "drop", "(I)I"⟩
abbrev cM_drop : ByteArray := prog_14_method_20_code
def yM_isPlace : MethodName := ⟨"TreeStepsModel", "isPlace", "(I)Z"⟩
abbrev cM_isPlace : ByteArray := prog_14_method_21_code
def yM_modulo : MethodName := ⟨"TreeStepsModel", "modulo", "(J)J"⟩
abbrev cM_modulo : ByteArray := prog_14_method_22_code
def yM_inverse : MethodName := ⟨"TreeStepsModel", "inverse", "(J)J"⟩
abbrev cM_inverse : ByteArray := prog_14_method_23_code
def yM_kindOf : MethodName := ⟨"TreeStepsModel", "kindOf", "(I)I"⟩
abbrev cM_kindOf : ByteArray := prog_14_method_24_code
def yM_lay : MethodName := ⟨"TreeStepsModel", "lay", "(I)I"⟩
abbrev cM_lay : ByteArray := prog_14_method_25_code
def yM_wipe : MethodName := ⟨"TreeStepsModel", "wipe", "(I)V"⟩
abbrev cM_wipe : ByteArray := prog_14_method_26_code
def yM_table : MethodName := ⟨"TreeStepsModel", "table", "(IIII)I"⟩
abbrev cM_table : ByteArray := prog_14_method_27_code
def yM_behind : MethodName := ⟨"TreeStepsModel", "behind", "(III)I"⟩
abbrev cM_behind : ByteArray := prog_14_method_28_code
def yM_turn : MethodName := ⟨"TreeStepsModel", "turn", "(III)I"⟩
abbrev cM_turn : ByteArray := prog_14_method_29_code
def yM_scale : MethodName := ⟨"TreeStepsModel", "scale", "(III)I"⟩
abbrev cM_scale : ByteArray := prog_14_method_30_code
def yM_clear : MethodName := ⟨"TreeStepsModel", "clear", "(I)I"⟩
abbrev cM_clear : ByteArray := prog_14_method_31_code
def yM_look : MethodName := ⟨"TreeStepsModel", "look", "(I)I"⟩
abbrev cM_look : ByteArray := prog_14_method_32_code
def yM_number : MethodName := ⟨"TreeStepsModel", "number", "(III)I"⟩
abbrev cM_number : ByteArray := prog_14_method_33_code
def yM_kind : MethodName := ⟨"TreeStepsModel", "kind", "(I)I"⟩
abbrev cM_kind : ByteArray := prog_14_method_34_code
def yM_isOf : MethodName := ⟨"TreeStepsModel", "isOf", "(II)Z"⟩
abbrev cM_isOf : ByteArray := prog_14_method_35_code
def yM_is : MethodName := ⟨"TreeStepsModel", "is", "(II)I"⟩
abbrev cM_is : ByteArray := prog_14_method_36_code
def yM_as : MethodName := ⟨"TreeStepsModel", "as", "(II)I"⟩
abbrev cM_as : ByteArray := prog_14_method_37_code
def yM_began : MethodName := ⟨"TreeStepsModel", "began", "(I)V"⟩
abbrev cM_began : ByteArray := prog_14_method_38_code
def yM_sized : MethodName := ⟨"TreeStepsModel", "sized", "(II)I"⟩
abbrev cM_sized : ByteArray := prog_14_method_39_code
def yM_ask : MethodName := ⟨"TreeStepsModel", "ask", "(II)I"⟩
abbrev cM_ask : ByteArray := prog_14_method_40_code
def yM_trace : MethodName := ⟨"TreeStepsModel", "trace", "(I)I"⟩
abbrev cM_trace : ByteArray := prog_14_method_41_code
def yM_weightOf : MethodName := ⟨"TreeStepsModel", "weightOf", "(II)J"⟩
abbrev cM_weightOf : ByteArray := prog_14_method_42_code
def yM_fits : MethodName := ⟨"TreeStepsModel", "fits", "(II)Z"⟩
abbrev cM_fits : ByteArray := prog_14_method_43_code
def yM_firstNot : MethodName := ⟨"TreeStepsModel", "firstNot", "(I)I"⟩
abbrev cM_firstNot : ByteArray := prog_14_method_44_code
def yM_orderOf : MethodName := ⟨"TreeStepsModel", "orderOf", "(I)I"⟩
abbrev cM_orderOf : ByteArray := prog_14_method_45_code
def yM_weight : MethodName := ⟨"TreeStepsModel", "weight", "(II)I"⟩
abbrev cM_weight : ByteArray := prog_14_method_46_code
def yM_order : MethodName := ⟨"TreeStepsModel", "order", "(II)I"⟩
abbrev cM_order : ByteArray := prog_14_method_47_code
def yM_share : MethodName := ⟨"TreeStepsModel", "share", "(III)I"⟩
abbrev cM_share : ByteArray := prog_14_method_48_code
def yM_power : MethodName := ⟨"TreeStepsModel", "power", "(JI)J"⟩
abbrev cM_power : ByteArray := prog_14_method_49_code
def yM_ride : MethodName := ⟨"TreeStepsModel", "ride", "(IIII)I"⟩
abbrev cM_ride : ByteArray := prog_14_method_50_code
def yM_alike : MethodName := ⟨"TreeStepsModel", "alike", "(III)I"⟩
abbrev cM_alike : ByteArray := prog_14_method_51_code
def yM_count : MethodName := ⟨"TreeStepsModel", "count", "(I)I"⟩
abbrev cM_count : ByteArray := prog_14_method_52_code
def yM_status : MethodName := ⟨"TreeStepsModel", "status", "()I"⟩
abbrev cM_status : ByteArray := prog_14_method_53_code
def yFo_init : MethodName := ⟨"TreeSteps$Forest", "<init>", "()V"⟩
abbrev cFo_init : ByteArray := prog_2_method_1_code
def yFo_plantFirst : MethodName := ⟨"TreeSteps$Forest", "plantFirst", "()V"⟩
abbrev cFo_plantFirst : ByteArray := prog_2_method_2_code
def yFo_plant : MethodName := ⟨"TreeSteps$Forest", "plant", "(I)V"⟩
abbrev cFo_plant : ByteArray := prog_2_method_3_code
def yFo_lower : MethodName := ⟨"TreeSteps$Forest", "lower", "([I[III)V"⟩
abbrev cFo_lower : ByteArray := prog_2_method_4_code
def yFo_takeApart : MethodName := ⟨"TreeSteps$Forest", "takeApart", "(I)V"⟩
abbrev cFo_takeApart : ByteArray := prog_2_method_5_code
def yFo_measure : MethodName := ⟨"TreeSteps$Forest", "measure", "(I)V"⟩
abbrev cFo_measure : ByteArray := prog_2_method_6_code
def yFo_hangingEnd : MethodName := ⟨"TreeSteps$Forest", "hangingEnd", "(II)I"⟩
abbrev cFo_hangingEnd : ByteArray := prog_2_method_7_code
def yFo_sameAtEnd : MethodName := ⟨"TreeSteps$Forest", "sameAtEnd", "(I)I"⟩
abbrev cFo_sameAtEnd : ByteArray := prog_2_method_8_code
def yFo_code : MethodName := ⟨"TreeSteps$Forest", "code", "([IIII)I"⟩
abbrev cFo_code : ByteArray := prog_2_method_9_code
def yFo_codeWithout : MethodName := ⟨"TreeSteps$Forest", "codeWithout", "([IIII)I"⟩
abbrev cFo_codeWithout : ByteArray := prog_2_method_10_code
def yFo_numbered : MethodName := ⟨"TreeSteps$Forest", "numbered", "(I)I"⟩
abbrev cFo_numbered : ByteArray := prog_2_method_11_code
def yFo_howMany : MethodName := ⟨"TreeSteps$Forest", "howMany", "(I)I"⟩
abbrev cFo_howMany : ByteArray := prog_2_method_12_code
def yKe_init : MethodName := ⟨"TreeSteps$Keeping", "<init>", "(LTreeSteps$Stages;[III)V"⟩
abbrev cKe_init : ByteArray := prog_3_method_1_code
def yKe_told : MethodName := ⟨"TreeSteps$Keeping", "told", "()I"⟩
abbrev cKe_told : ByteArray := prog_3_method_2_code
def yKe_size : MethodName := ⟨"TreeSteps$Keeping", "size", "(LTreeSteps$Trace;)I"⟩
abbrev cKe_size : ByteArray := prog_3_method_3_code
def yKe_mark : MethodName := ⟨"TreeSteps$Keeping", "mark", "(LTreeSteps$Trace;)I"⟩
abbrev cKe_mark : ByteArray := prog_3_method_4_code
def yLo_init : MethodName := ⟨"TreeSteps$Lower", "<init>", "(LTreeSteps$Stages;[III)V"⟩
abbrev cLo_init : ByteArray := prog_4_method_1_code
def yLo_told : MethodName := ⟨"TreeSteps$Lower", "told", "()I"⟩
abbrev cLo_told : ByteArray := prog_4_method_2_code
def yLo_size : MethodName := ⟨"TreeSteps$Lower", "size", "(LTreeSteps$Trace;)I"⟩
abbrev cLo_size : ByteArray := prog_4_method_3_code
def yLo_mark : MethodName := ⟨"TreeSteps$Lower", "mark", "(LTreeSteps$Trace;)I"⟩
abbrev cLo_mark : ByteArray := prog_4_method_4_code
def yMo_init : MethodName := ⟨"TreeSteps$Modulus", "<init>", "(I)V"⟩
abbrev cMo_init : ByteArray := prog_5_method_1_code
def yMo_fitting : MethodName := ⟨"TreeSteps$Modulus", "fitting", "(I)Z"⟩
abbrev cMo_fitting : ByteArray := prog_5_method_2_code
def yMo_of : MethodName := ⟨"TreeSteps$Modulus", "of", "(J)J"⟩
abbrev cMo_of : ByteArray := prog_5_method_3_code
def yMo_plus : MethodName := ⟨"TreeSteps$Modulus", "plus", "(JJ)J"⟩
abbrev cMo_plus : ByteArray := prog_5_method_4_code
def yMo_less : MethodName := ⟨"TreeSteps$Modulus", "less", "(JJ)J"⟩
abbrev cMo_less : ByteArray := prog_5_method_5_code
def yMo_times : MethodName := ⟨"TreeSteps$Modulus", "times", "(JJ)J"⟩
abbrev cMo_times : ByteArray := prog_5_method_6_code
def yMo_power : MethodName := ⟨"TreeSteps$Modulus", "power", "(JJ)J"⟩
abbrev cMo_power : ByteArray := prog_5_method_7_code
def yMo_inverse : MethodName := ⟨"TreeSteps$Modulus", "inverse", "(J)J"⟩
abbrev cMo_inverse : ByteArray := prog_5_method_8_code
def yPl_init : MethodName := ⟨"TreeSteps$Plain", "<init>", "(LTreeSteps$Stages;[III)V"⟩
abbrev cPl_init : ByteArray := prog_6_method_1_code
def yPl_told : MethodName := ⟨"TreeSteps$Plain", "told", "()I"⟩
abbrev cPl_told : ByteArray := prog_6_method_2_code
def yPl_size : MethodName := ⟨"TreeSteps$Plain", "size", "(LTreeSteps$Trace;)I"⟩
abbrev cPl_size : ByteArray := prog_6_method_3_code
def ySh_init : MethodName := ⟨"TreeSteps$Shares", "<init>", "(LTreeSteps$Modulus;)V"⟩
abbrev cSh_init : ByteArray := prog_7_method_1_code
def ySh_coefficient : MethodName := ⟨"TreeSteps$Shares", "coefficient", "(LTreeSteps$Stages;I)I"⟩
abbrev cSh_coefficient : ByteArray := prog_7_method_2_code
def ySh_clearFactor : MethodName := ⟨"TreeSteps$Shares", "clearFactor", "()V"⟩
abbrev cSh_clearFactor : ByteArray := prog_7_method_3_code
def ySh_addToDiagonal : MethodName := ⟨"TreeSteps$Shares", "addToDiagonal", "(IJ)V"⟩
abbrev cSh_addToDiagonal : ByteArray := prog_7_method_4_code
def ySh_multiply : MethodName := ⟨"TreeSteps$Shares", "multiply", "(LTreeSteps$Stages;)V"⟩
abbrev cSh_multiply : ByteArray := prog_7_method_5_code
def ySh_diagonalSum : MethodName := ⟨"TreeSteps$Shares", "diagonalSum", "(I)J"⟩
abbrev cSh_diagonalSum : ByteArray := prog_7_method_6_code
def ySh_keepProduct : MethodName := ⟨"TreeSteps$Shares", "keepProduct", "()V"⟩
abbrev cSh_keepProduct : ByteArray := prog_7_method_7_code
def ySt_init : MethodName := ⟨"TreeSteps$Sheet", "<init>", "()V"⟩
abbrev cSt_init : ByteArray := prog_8_method_1_code
def ySt_missing : MethodName := ⟨"TreeSteps$Sheet", "missing", "()Z"⟩
abbrev cSt_missing : ByteArray := prog_8_method_2_code
def ySt_begin : MethodName := ⟨"TreeSteps$Sheet", "begin", "(II)V"⟩
abbrev cSt_begin : ByteArray := prog_8_method_3_code
def ySt_holds : MethodName := ⟨"TreeSteps$Sheet", "holds", "(II)Z"⟩
abbrev cSt_holds : ByteArray := prog_8_method_4_code
def ySt_put : MethodName := ⟨"TreeSteps$Sheet", "put", "(IJ)J"⟩
abbrev cSt_put : ByteArray := prog_8_method_5_code
def ySg_init : MethodName := ⟨"TreeSteps$Stages", "<init>", "(I)V"⟩
abbrev cSg_init : ByteArray := prog_9_method_1_code
def ySg_a : MethodName := ⟨"TreeSteps$Stages", "a", "(II)J"⟩
abbrev cSg_a : ByteArray := prog_9_method_2_code
def ySg_b : MethodName := ⟨"TreeSteps$Stages", "b", "(I)J"⟩
abbrev cSg_b : ByteArray := prog_9_method_3_code
def ySg_putA : MethodName := ⟨"TreeSteps$Stages", "putA", "(IIJ)V"⟩
abbrev cSg_putA : ByteArray := prog_9_method_4_code
def ySg_putB : MethodName := ⟨"TreeSteps$Stages", "putB", "(IJ)V"⟩
abbrev cSg_putB : ByteArray := prog_9_method_5_code
def ySg_zeroFrom : MethodName := ⟨"TreeSteps$Stages", "zeroFrom", "(I)Z"⟩
abbrev cSg_zeroFrom : ByteArray := prog_9_method_6_code
def yTa_init : MethodName := ⟨"TreeSteps$Table", "<init>", "(LTreeSteps$Stages;[III)V"⟩
abbrev cTa_init : ByteArray := prog_10_method_1_code
def yTa_told : MethodName := ⟨"TreeSteps$Table", "told", "()I"⟩
abbrev cTa_told : ByteArray := prog_10_method_2_code
def yTa_size : MethodName := ⟨"TreeSteps$Table", "size", "(LTreeSteps$Trace;)I"⟩
abbrev cTa_size : ByteArray := prog_10_method_3_code
def yTa_mark : MethodName := ⟨"TreeSteps$Table", "mark", "(LTreeSteps$Trace;)I"⟩
abbrev cTa_mark : ByteArray := prog_10_method_4_code
def yTr_init : MethodName := ⟨"TreeSteps$Trace", "<init>", "()V"⟩
abbrev cTr_init : ByteArray := prog_11_method_1_code
def yTr_begin : MethodName := ⟨"TreeSteps$Trace", "begin", "(I)V"⟩
abbrev cTr_begin : ByteArray := prog_11_method_2_code
def yWe_init : MethodName := ⟨"TreeSteps$Weigher", "<init>", "(LTreeSteps$Modulus;LTreeSteps$Forest;)V"⟩
abbrev cWe_init : ByteArray := prog_12_method_1_code
def yWe_weights : MethodName := ⟨"TreeSteps$Weigher", "weights", "(LTreeSteps$Stages;)[I"⟩
abbrev cWe_weights : ByteArray := prog_12_method_2_code
def yWe_root : MethodName := ⟨"TreeSteps$Weigher", "root", "(II)V"⟩
abbrev cWe_root : ByteArray := prog_12_method_3_code
def yWe_hangUp : MethodName := ⟨"TreeSteps$Weigher", "hangUp", "(ILTreeSteps$Stages;)V"⟩
abbrev cWe_hangUp : ByteArray := prog_12_method_4_code
def yL_cell : MethodName := ⟨"TreeStepsLaw", "cell", "([II)I"⟩
abbrev cL_cell : ByteArray := method_2_code
def yMa_floorMod : MethodName := ⟨"java/lang/Math", "floorMod", "(JJ)J"⟩
abbrev cMa_floorMod : ByteArray := prog_15_method_52_code
def yMa_min : MethodName := ⟨"java/lang/Math", "min", "(II)I"⟩
abbrev cMa_min : ByteArray := prog_15_method_69_code

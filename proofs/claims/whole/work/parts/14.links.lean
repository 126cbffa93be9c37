theorem kiMo_19 : Cond.constant "TreeSteps$Modulus" 19 (2000000000:Int32) ∈ gtbl := gw 82 (by decide +kernel) (by decide +kernel)
theorem mlMo_1 : (Cond.methodLink "TreeSteps$Modulus" (1 : Nat) ({ cls := "java/lang/Object", name := "<init>", desc := "()V" } : MethodName)) ∈ gtbl := gw 78 (by decide +kernel) (by decide +kernel)
theorem obI : (Cond.instanceMethod ({ cls := "java/lang/Object", name := "<init>", desc := "()V" } : MethodName)) ∈ gtbl := gw 71 (by decide +kernel) (by decide +kernel)
theorem obC : Cond.code objectInit ⟨#[0xb1]⟩ 1 none ∈ gtbl := gw 72 (by decide +kernel) (by decide +kernel)
theorem klMo_13 : Cond.constantLong "TreeSteps$Modulus" 13 (998244353:Int64) ∈ gtbl := gw 83 (by decide +kernel) (by decide +kernel)
theorem ffMo_15 : ∀ t ∈ [3], FF "TreeSteps$Modulus" 15 t 0 (.long) := by
  intro t ht
  rw [List.mem_singleton.mp ht]
  exact ⟨RMo, TMo, 1, tyMo, rfl, by decide, inMo, tyMo_ok, nmMo, rfl, rfl, rfl, (gw 84 (by decide +kernel) (by decide +kernel))⟩
theorem lcMo_fitting : LC yMo_fitting cMo_fitting 2 (some .boolean) 1 := ⟨gw 81 (by decide +kernel) (by decide +kernel), gw 51 (by decide +kernel) (by decide +kernel), by decide +kernel, by decide +kernel⟩
theorem lsMo_7 : LSt "TreeSteps$Modulus" 7 yMo_fitting cMo_fitting 2 (some .boolean) 1 := ⟨gw 79 (by decide +kernel) (by decide +kernel), gw 80 (by decide +kernel) (by decide +kernel), lcMo_fitting⟩
theorem lcFo_code : LC yFo_code cFo_code 6 (some .int) 4 := ⟨gw 104 (by decide +kernel) (by decide +kernel), gw 52 (by decide +kernel) (by decide +kernel), by decide +kernel, by decide +kernel⟩
theorem lsFo_55 : LSt "TreeSteps$Forest" 55 yFo_code cFo_code 6 (some .int) 4 := ⟨gw 102 (by decide +kernel) (by decide +kernel), gw 103 (by decide +kernel) (by decide +kernel), lcFo_code⟩
theorem fgFo_11 : ∀ t ∈ [0], FG "TreeSteps$Forest" 11 t 0 := by
  intro t ht
  rw [List.mem_singleton.mp ht]
  exact ⟨RFo, TFo, 9, rfl, by decide, inFo, Or.inl (gw 135 (by decide +kernel) (by decide +kernel))⟩
theorem fgFo_38 : ∀ t ∈ [0], FG "TreeSteps$Forest" 38 t 8 := by
  intro t ht
  rw [List.mem_singleton.mp ht]
  exact ⟨RFo, TFo, 9, rfl, by decide, inFo, Or.inl (gw 152 (by decide +kernel) (by decide +kernel))⟩
theorem fgFo_23 : ∀ t ∈ [0], FG "TreeSteps$Forest" 23 t 3 := by
  intro t ht
  rw [List.mem_singleton.mp ht]
  exact ⟨RFo, TFo, 9, rfl, by decide, inFo, Or.inl (gw 142 (by decide +kernel) (by decide +kernel))⟩
theorem fgFo_20 : ∀ t ∈ [0], FG "TreeSteps$Forest" 20 t 2 := by
  intro t ht
  rw [List.mem_singleton.mp ht]
  exact ⟨RFo, TFo, 9, rfl, by decide, inFo, Or.inl (gw 140 (by decide +kernel) (by decide +kernel))⟩
theorem fgFo_16 : ∀ t ∈ [0], FG "TreeSteps$Forest" 16 t 1 := by
  intro t ht
  rw [List.mem_singleton.mp ht]
  exact ⟨RFo, TFo, 9, rfl, by decide, inFo, Or.inl (gw 137 (by decide +kernel) (by decide +kernel))⟩
theorem lcFo_lower : LC yFo_lower cFo_lower 6 none 4 := ⟨gw 111 (by decide +kernel) (by decide +kernel), gw 52 (by decide +kernel) (by decide +kernel), by decide +kernel, by decide +kernel⟩
theorem lsFo_59 : LSt "TreeSteps$Forest" 59 yFo_lower cFo_lower 6 none 4 := ⟨gw 109 (by decide +kernel) (by decide +kernel), gw 110 (by decide +kernel) (by decide +kernel), lcFo_lower⟩
theorem fgFo_32 : ∀ t ∈ [0], FG "TreeSteps$Forest" 32 t 6 := by
  intro t ht
  rw [List.mem_singleton.mp ht]
  exact ⟨RFo, TFo, 9, rfl, by decide, inFo, Or.inl (gw 148 (by decide +kernel) (by decide +kernel))⟩
theorem fgFo_29 : ∀ t ∈ [0], FG "TreeSteps$Forest" 29 t 5 := by
  intro t ht
  rw [List.mem_singleton.mp ht]
  exact ⟨RFo, TFo, 9, rfl, by decide, inFo, Or.inl (gw 146 (by decide +kernel) (by decide +kernel))⟩
theorem fgFo_35 : ∀ t ∈ [0], FG "TreeSteps$Forest" 35 t 7 := by
  intro t ht
  rw [List.mem_singleton.mp ht]
  exact ⟨RFo, TFo, 9, rfl, by decide, inFo, Or.inl (gw 150 (by decide +kernel) (by decide +kernel))⟩
theorem lcFo_numbered : LC yFo_numbered cFo_numbered 3 (some .int) 1 := ⟨gw 123 (by decide +kernel) (by decide +kernel), gw 52 (by decide +kernel) (by decide +kernel), by decide +kernel, by decide +kernel⟩
theorem lmFo_67 : LM "TreeSteps$Forest" 67 0 yFo_numbered cFo_numbered 3 (some .int) 1 := ⟨RFo, TFo, 9, rfl, gw 120 (by decide +kernel) (by decide +kernel), gw 122 (by decide +kernel) (by decide +kernel), gw 4 (by decide +kernel) (by decide +kernel), lcFo_numbered⟩
theorem lcFo_codeWithout : LC yFo_codeWithout cFo_codeWithout 6 (some .int) 4 := ⟨gw 126 (by decide +kernel) (by decide +kernel), gw 52 (by decide +kernel) (by decide +kernel), by decide +kernel, by decide +kernel⟩
theorem lsFo_71 : LSt "TreeSteps$Forest" 71 yFo_codeWithout cFo_codeWithout 6 (some .int) 4 := ⟨gw 124 (by decide +kernel) (by decide +kernel), gw 125 (by decide +kernel) (by decide +kernel), lcFo_codeWithout⟩
theorem lcFo_hangingEnd : LC yFo_hangingEnd cFo_hangingEnd 5 (some .int) 2 := ⟨gw 119 (by decide +kernel) (by decide +kernel), gw 52 (by decide +kernel) (by decide +kernel), by decide +kernel, by decide +kernel⟩
theorem lmFo_63 : LM "TreeSteps$Forest" 63 0 yFo_hangingEnd cFo_hangingEnd 5 (some .int) 2 := ⟨RFo, TFo, 9, rfl, gw 116 (by decide +kernel) (by decide +kernel), gw 118 (by decide +kernel) (by decide +kernel), gw 3 (by decide +kernel) (by decide +kernel), lcFo_hangingEnd⟩
theorem lcFo_sameAtEnd : LC yFo_sameAtEnd cFo_sameAtEnd 5 (some .int) 1 := ⟨gw 134 (by decide +kernel) (by decide +kernel), gw 52 (by decide +kernel) (by decide +kernel), by decide +kernel, by decide +kernel⟩
theorem lmFo_74 : LM "TreeSteps$Forest" 74 0 yFo_sameAtEnd cFo_sameAtEnd 5 (some .int) 1 := ⟨RFo, TFo, 9, rfl, gw 131 (by decide +kernel) (by decide +kernel), gw 133 (by decide +kernel) (by decide +kernel), gw 6 (by decide +kernel) (by decide +kernel), lcFo_sameAtEnd⟩
theorem fgFo_26 : ∀ t ∈ [0], FG "TreeSteps$Forest" 26 t 4 := by
  intro t ht
  rw [List.mem_singleton.mp ht]
  exact ⟨RFo, TFo, 9, rfl, by decide, inFo, Or.inl (gw 144 (by decide +kernel) (by decide +kernel))⟩
theorem mlFo_3 : (Cond.methodLink "TreeSteps$Forest" (3 : Nat) ({ cls := "java/lang/Object", name := "<init>", desc := "()V" } : MethodName)) ∈ gtbl := gw 94 (by decide +kernel) (by decide +kernel)
theorem arI : (Cond.arrayClass Jvm.ClassFile.FieldType.int) ∈ gtbl := gw 172 (by decide +kernel) (by decide +kernel)
theorem ffFo_38 : ∀ t ∈ [0], FF "TreeSteps$Forest" 38 t 8 (.array (.int)) := by
  intro t ht
  rw [List.mem_singleton.mp ht]
  exact ⟨RFo, TFo, 9, tyFo, rfl, by decide, inFo, tyFo_ok, nmFo, rfl, rfl, rfl, (gw 152 (by decide +kernel) (by decide +kernel))⟩
theorem ffFo_35 : ∀ t ∈ [0], FF "TreeSteps$Forest" 35 t 7 (.array (.array (.int))) := by
  intro t ht
  rw [List.mem_singleton.mp ht]
  exact ⟨RFo, TFo, 9, tyFo, rfl, by decide, inFo, tyFo_ok, nmFo, rfl, rfl, rfl, (gw 150 (by decide +kernel) (by decide +kernel))⟩
theorem clFo_9 : Cond.classLink "TreeSteps$Forest" 9 "[[I" ∈ gtbl := gw 95 (by decide +kernel) (by decide +kernel)
theorem ffFo_32 : ∀ t ∈ [0], FF "TreeSteps$Forest" 32 t 6 (.array (.int)) := by
  intro t ht
  rw [List.mem_singleton.mp ht]
  exact ⟨RFo, TFo, 9, tyFo, rfl, by decide, inFo, tyFo_ok, nmFo, rfl, rfl, rfl, (gw 148 (by decide +kernel) (by decide +kernel))⟩
theorem ffFo_29 : ∀ t ∈ [0], FF "TreeSteps$Forest" 29 t 5 (.array (.int)) := by
  intro t ht
  rw [List.mem_singleton.mp ht]
  exact ⟨RFo, TFo, 9, tyFo, rfl, by decide, inFo, tyFo_ok, nmFo, rfl, rfl, rfl, (gw 146 (by decide +kernel) (by decide +kernel))⟩
theorem ffFo_26 : ∀ t ∈ [0], FF "TreeSteps$Forest" 26 t 4 (.array (.int)) := by
  intro t ht
  rw [List.mem_singleton.mp ht]
  exact ⟨RFo, TFo, 9, tyFo, rfl, by decide, inFo, tyFo_ok, nmFo, rfl, rfl, rfl, (gw 144 (by decide +kernel) (by decide +kernel))⟩
theorem ffFo_23 : ∀ t ∈ [0], FF "TreeSteps$Forest" 23 t 3 (.array (.int)) := by
  intro t ht
  rw [List.mem_singleton.mp ht]
  exact ⟨RFo, TFo, 9, tyFo, rfl, by decide, inFo, tyFo_ok, nmFo, rfl, rfl, rfl, (gw 142 (by decide +kernel) (by decide +kernel))⟩
theorem ffFo_20 : ∀ t ∈ [0], FF "TreeSteps$Forest" 20 t 2 (.array (.int)) := by
  intro t ht
  rw [List.mem_singleton.mp ht]
  exact ⟨RFo, TFo, 9, tyFo, rfl, by decide, inFo, tyFo_ok, nmFo, rfl, rfl, rfl, (gw 140 (by decide +kernel) (by decide +kernel))⟩
theorem ffFo_16 : ∀ t ∈ [0], FF "TreeSteps$Forest" 16 t 1 (.array (.int)) := by
  intro t ht
  rw [List.mem_singleton.mp ht]
  exact ⟨RFo, TFo, 9, tyFo, rfl, by decide, inFo, tyFo_ok, nmFo, rfl, rfl, rfl, (gw 137 (by decide +kernel) (by decide +kernel))⟩
theorem ffFo_11 : ∀ t ∈ [0], FF "TreeSteps$Forest" 11 t 0 (.array (.array (.int))) := by
  intro t ht
  rw [List.mem_singleton.mp ht]
  exact ⟨RFo, TFo, 9, tyFo, rfl, by decide, inFo, tyFo_ok, nmFo, rfl, rfl, rfl, (gw 135 (by decide +kernel) (by decide +kernel))⟩
theorem lcFo_plantFirst : LC yFo_plantFirst cFo_plantFirst 1 none 0 := ⟨gw 101 (by decide +kernel) (by decide +kernel), gw 52 (by decide +kernel) (by decide +kernel), by decide +kernel, by decide +kernel⟩
theorem lmFo_42 : LM "TreeSteps$Forest" 42 0 yFo_plantFirst cFo_plantFirst 1 none 0 := ⟨RFo, TFo, 9, rfl, gw 98 (by decide +kernel) (by decide +kernel), gw 100 (by decide +kernel) (by decide +kernel), gw 0 (by decide +kernel) (by decide +kernel), lcFo_plantFirst⟩
theorem lcFo_measure : LC yFo_measure cFo_measure 5 none 1 := ⟨gw 130 (by decide +kernel) (by decide +kernel), gw 52 (by decide +kernel) (by decide +kernel), by decide +kernel, by decide +kernel⟩
theorem lmFo_52 : LM "TreeSteps$Forest" 52 0 yFo_measure cFo_measure 5 none 1 := ⟨RFo, TFo, 9, rfl, gw 127 (by decide +kernel) (by decide +kernel), gw 129 (by decide +kernel) (by decide +kernel), gw 5 (by decide +kernel) (by decide +kernel), lcFo_measure⟩
theorem lcFo_takeApart : LC yFo_takeApart cFo_takeApart 7 none 1 := ⟨gw 115 (by decide +kernel) (by decide +kernel), gw 52 (by decide +kernel) (by decide +kernel), by decide +kernel, by decide +kernel⟩
theorem lmFo_49 : LM "TreeSteps$Forest" 49 0 yFo_takeApart cFo_takeApart 7 none 1 := ⟨RFo, TFo, 9, rfl, gw 112 (by decide +kernel) (by decide +kernel), gw 114 (by decide +kernel) (by decide +kernel), gw 2 (by decide +kernel) (by decide +kernel), lcFo_takeApart⟩
theorem lcFo_plant : LC yFo_plant cFo_plant 7 none 1 := ⟨gw 108 (by decide +kernel) (by decide +kernel), gw 52 (by decide +kernel) (by decide +kernel), by decide +kernel, by decide +kernel⟩
theorem lmFo_45 : LM "TreeSteps$Forest" 45 0 yFo_plant cFo_plant 7 none 1 := ⟨RFo, TFo, 9, rfl, gw 105 (by decide +kernel) (by decide +kernel), gw 107 (by decide +kernel) (by decide +kernel), gw 1 (by decide +kernel) (by decide +kernel), lcFo_plant⟩
theorem kiFo_41 : Cond.constant "TreeSteps$Forest" 41 (-1000000:Int32) ∈ gtbl := gw 97 (by decide +kernel) (by decide +kernel)
theorem mlWe_3 : (Cond.methodLink "TreeSteps$Weigher" (3 : Nat) ({ cls := "java/lang/Object", name := "<init>", desc := "()V" } : MethodName)) ∈ gtbl := gw 178 (by decide +kernel) (by decide +kernel)
theorem arL : (Cond.arrayClass Jvm.ClassFile.FieldType.long) ∈ gtbl := gw 192 (by decide +kernel) (by decide +kernel)
theorem ffWe_22 : ∀ t ∈ [10], FF "TreeSteps$Weigher" 22 t 1 (.object "TreeSteps$Forest") := by
  intro t ht
  rw [List.mem_singleton.mp ht]
  exact ⟨RWe, TWe, 4, tyWe, rfl, by decide, inWe, tyWe_ok, nmWe, rfl, rfl, rfl, (gw 180 (by decide +kernel) (by decide +kernel))⟩
theorem ffWe_18 : ∀ t ∈ [10], FF "TreeSteps$Weigher" 18 t 0 (.object "TreeSteps$Modulus") := by
  intro t ht
  rw [List.mem_singleton.mp ht]
  exact ⟨RWe, TWe, 4, tyWe, rfl, by decide, inWe, tyWe_ok, nmWe, rfl, rfl, rfl, (gw 179 (by decide +kernel) (by decide +kernel))⟩
theorem ffWe_15 : ∀ t ∈ [10], FF "TreeSteps$Weigher" 15 t 3 (.array (.long)) := by
  intro t ht
  rw [List.mem_singleton.mp ht]
  exact ⟨RWe, TWe, 4, tyWe, rfl, by decide, inWe, tyWe_ok, nmWe, rfl, rfl, rfl, (gw 182 (by decide +kernel) (by decide +kernel))⟩
theorem ffWe_9 : ∀ t ∈ [10], FF "TreeSteps$Weigher" 9 t 2 (.array (.long)) := by
  intro t ht
  rw [List.mem_singleton.mp ht]
  exact ⟨RWe, TWe, 4, tyWe, rfl, by decide, inWe, tyWe_ok, nmWe, rfl, rfl, rfl, (gw 181 (by decide +kernel) (by decide +kernel))⟩
theorem mlSh_3 : (Cond.methodLink "TreeSteps$Shares" (3 : Nat) ({ cls := "java/lang/Object", name := "<init>", desc := "()V" } : MethodName)) ∈ gtbl := gw 198 (by decide +kernel) (by decide +kernel)
theorem ffSh_18 : ∀ t ∈ [5], FF "TreeSteps$Shares" 18 t 0 (.object "TreeSteps$Modulus") := by
  intro t ht
  rw [List.mem_singleton.mp ht]
  exact ⟨RSh, TSh, 3, tySh, rfl, by decide, inSh, tySh_ok, nmSh, rfl, rfl, rfl, (gw 199 (by decide +kernel) (by decide +kernel))⟩
theorem ffSh_15 : ∀ t ∈ [5], FF "TreeSteps$Shares" 15 t 2 (.array (.long)) := by
  intro t ht
  rw [List.mem_singleton.mp ht]
  exact ⟨RSh, TSh, 3, tySh, rfl, by decide, inSh, tySh_ok, nmSh, rfl, rfl, rfl, (gw 201 (by decide +kernel) (by decide +kernel))⟩
theorem ffSh_9 : ∀ t ∈ [5], FF "TreeSteps$Shares" 9 t 1 (.array (.long)) := by
  intro t ht
  rw [List.mem_singleton.mp ht]
  exact ⟨RSh, TSh, 3, tySh, rfl, by decide, inSh, tySh_ok, nmSh, rfl, rfl, rfl, (gw 200 (by decide +kernel) (by decide +kernel))⟩
theorem mlTr_1 : (Cond.methodLink "TreeSteps$Trace" (1 : Nat) ({ cls := "java/lang/Object", name := "<init>", desc := "()V" } : MethodName)) ∈ gtbl := gw 214 (by decide +kernel) (by decide +kernel)
theorem fpTr_13 : ∀ t ∈ [9], FP "TreeSteps$Trace" 13 t 1 (.int) := by
  intro t ht
  rw [List.mem_singleton.mp ht]
  exact ⟨RTr, TTr, 2, tyTr, rfl, by decide, inTr, tyTr_ok, nmTr, rfl, rfl, Or.inl (gw 217 (by decide +kernel) (by decide +kernel))⟩
theorem ffTr_9 : ∀ t ∈ [9], FF "TreeSteps$Trace" 9 t 0 (.array (.int)) := by
  intro t ht
  rw [List.mem_singleton.mp ht]
  exact ⟨RTr, TTr, 2, tyTr, rfl, by decide, inTr, tyTr_ok, nmTr, rfl, rfl, rfl, (gw 215 (by decide +kernel) (by decide +kernel))⟩
theorem mlSt_3 : (Cond.methodLink "TreeSteps$Sheet" (3 : Nat) ({ cls := "java/lang/Object", name := "<init>", desc := "()V" } : MethodName)) ∈ gtbl := gw 230 (by decide +kernel) (by decide +kernel)
theorem fpSt_19 : ∀ t ∈ [6], FP "TreeSteps$Sheet" 19 t 2 (.int) := by
  intro t ht
  rw [List.mem_singleton.mp ht]
  exact ⟨RSt, TSt, 3, tySt, rfl, by decide, inSt, tySt_ok, nmSt, rfl, rfl, Or.inl (gw 235 (by decide +kernel) (by decide +kernel))⟩
theorem fpSt_15 : ∀ t ∈ [6], FP "TreeSteps$Sheet" 15 t 1 (.int) := by
  intro t ht
  rw [List.mem_singleton.mp ht]
  exact ⟨RSt, TSt, 3, tySt, rfl, by decide, inSt, tySt_ok, nmSt, rfl, rfl, Or.inl (gw 233 (by decide +kernel) (by decide +kernel))⟩
theorem ffSt_9 : ∀ t ∈ [6], FF "TreeSteps$Sheet" 9 t 0 (.array (.long)) := by
  intro t ht
  rw [List.mem_singleton.mp ht]
  exact ⟨RSt, TSt, 3, tySt, rfl, by decide, inSt, tySt_ok, nmSt, rfl, rfl, rfl, (gw 231 (by decide +kernel) (by decide +kernel))⟩
theorem mlX_1 : (Cond.methodLink "TreeSteps" (1 : Nat) ({ cls := "java/lang/Object", name := "<init>", desc := "()V" } : MethodName)) ∈ gtbl := gw 70 (by decide +kernel) (by decide +kernel)
theorem ffX_12 : ∀ t ∈ [11], FF "TreeSteps" 12 t 0 (.object "TreeSteps$Modulus") := by
  intro t ht
  rw [List.mem_singleton.mp ht]
  exact ⟨RX, TX, 9, tyX, rfl, by decide, inX, tyX_ok, nmX, rfl, rfl, rfl, (gw 246 (by decide +kernel) (by decide +kernel))⟩
theorem lcMo_init : LC yMo_init cMo_init 2 none 1 := ⟨gw 77 (by decide +kernel) (by decide +kernel), gw 51 (by decide +kernel) (by decide +kernel), by decide +kernel, by decide +kernel⟩
theorem liX_9 : LI "TreeSteps" 9 yMo_init cMo_init 2 1 := ⟨Or.inl (gw 75 (by decide +kernel) (by decide +kernel)), rfl, gw 76 (by decide +kernel) (by decide +kernel), lcMo_init⟩
theorem noX_7 : NO "TreeSteps" 7 3 1 [.long 0] := ⟨RMo, TMo, tyMo, rfl, inMo, tyMo_ok, gw 73 (by decide +kernel) (by decide +kernel), gw 74 (by decide +kernel) (by decide +kernel), gw 51 (by decide +kernel) (by decide +kernel), by decide +kernel, fun _ => rfl⟩
theorem ffX_63 : ∀ t ∈ [11], FF "TreeSteps" 63 t 7 (.array (.long)) := by
  intro t ht
  rw [List.mem_singleton.mp ht]
  exact ⟨RX, TX, 9, tyX, rfl, by decide, inX, tyX_ok, nmX, rfl, rfl, rfl, (gw 253 (by decide +kernel) (by decide +kernel))⟩
theorem ffX_59 : ∀ t ∈ [11], FF "TreeSteps" 59 t 6 (.array (.object "TreeSteps$Table")) := by
  intro t ht
  rw [List.mem_singleton.mp ht]
  exact ⟨RX, TX, 9, tyX, rfl, by decide, inX, tyX_ok, nmX, rfl, rfl, rfl, (gw 252 (by decide +kernel) (by decide +kernel))⟩
theorem clX_57 : Cond.classLink "TreeSteps" 57 "TreeSteps$Table" ∈ gtbl := gw 244 (by decide +kernel) (by decide +kernel)
theorem lcSt_init : LC ySt_init cSt_init 1 none 0 := ⟨gw 229 (by decide +kernel) (by decide +kernel), gw 56 (by decide +kernel) (by decide +kernel), by decide +kernel, by decide +kernel⟩
theorem liX_56 : LI "TreeSteps" 56 ySt_init cSt_init 1 0 := ⟨Or.inr ⟨"TreeSteps", nw 227 (by decide +kernel) (by decide +kernel)⟩, rfl, gw 228 (by decide +kernel) (by decide +kernel), lcSt_init⟩
theorem noX_50 : NO "TreeSteps" 50 6 3 [.null, .int 0, .int 0] := ⟨RSt, TSt, tySt, rfl, inSt, tySt_ok, gw 224 (by decide +kernel) (by decide +kernel), gw 226 (by decide +kernel) (by decide +kernel), gw 56 (by decide +kernel) (by decide +kernel), by decide +kernel, fun _ => rfl⟩
theorem fgX_52 : ∀ t ∈ [11], FG "TreeSteps" 52 t 5 := by
  intro t ht
  rw [List.mem_singleton.mp ht]
  exact ⟨RX, TX, 9, rfl, by decide, inX, Or.inl (gw 251 (by decide +kernel) (by decide +kernel))⟩
theorem ffX_52 : ∀ t ∈ [11], FF "TreeSteps" 52 t 5 (.array (.object "TreeSteps$Sheet")) := by
  intro t ht
  rw [List.mem_singleton.mp ht]
  exact ⟨RX, TX, 9, tyX, rfl, by decide, inX, tyX_ok, nmX, rfl, rfl, rfl, (gw 251 (by decide +kernel) (by decide +kernel))⟩
theorem clX_50 : Cond.classLink "TreeSteps" 50 "TreeSteps$Sheet" ∈ gtbl := gw 224 (by decide +kernel) (by decide +kernel)
theorem ffX_46 : ∀ t ∈ [11], FF "TreeSteps" 46 t 4 (.object "TreeSteps$Trace") := by
  intro t ht
  rw [List.mem_singleton.mp ht]
  exact ⟨RX, TX, 9, tyX, rfl, by decide, inX, tyX_ok, nmX, rfl, rfl, rfl, (gw 250 (by decide +kernel) (by decide +kernel))⟩
theorem lcTr_init : LC yTr_init cTr_init 1 none 0 := ⟨gw 213 (by decide +kernel) (by decide +kernel), gw 55 (by decide +kernel) (by decide +kernel), by decide +kernel, by decide +kernel⟩
theorem liX_45 : LI "TreeSteps" 45 yTr_init cTr_init 1 0 := ⟨Or.inr ⟨"TreeSteps", nw 211 (by decide +kernel) (by decide +kernel)⟩, rfl, gw 212 (by decide +kernel) (by decide +kernel), lcTr_init⟩
theorem noX_43 : NO "TreeSteps" 43 9 2 [.null, .int 0] := ⟨RTr, TTr, tyTr, rfl, inTr, tyTr_ok, gw 209 (by decide +kernel) (by decide +kernel), gw 210 (by decide +kernel) (by decide +kernel), gw 55 (by decide +kernel) (by decide +kernel), by decide +kernel, fun _ => rfl⟩
theorem ffX_39 : ∀ t ∈ [11], FF "TreeSteps" 39 t 3 (.object "TreeSteps$Shares") := by
  intro t ht
  rw [List.mem_singleton.mp ht]
  exact ⟨RX, TX, 9, tyX, rfl, by decide, inX, tyX_ok, nmX, rfl, rfl, rfl, (gw 249 (by decide +kernel) (by decide +kernel))⟩
theorem lcSh_init : LC ySh_init cSh_init 2 none 1 := ⟨gw 197 (by decide +kernel) (by decide +kernel), gw 54 (by decide +kernel) (by decide +kernel), by decide +kernel, by decide +kernel⟩
theorem liX_36 : LI "TreeSteps" 36 ySh_init cSh_init 2 1 := ⟨Or.inl (gw 195 (by decide +kernel) (by decide +kernel)), rfl, gw 196 (by decide +kernel) (by decide +kernel), lcSh_init⟩
theorem fgX_12 : ∀ t ∈ [11], FG "TreeSteps" 12 t 0 := by
  intro t ht
  rw [List.mem_singleton.mp ht]
  exact ⟨RX, TX, 9, rfl, by decide, inX, Or.inl (gw 246 (by decide +kernel) (by decide +kernel))⟩
theorem noX_34 : NO "TreeSteps" 34 5 3 [.null, .null, .null] := ⟨RSh, TSh, tySh, rfl, inSh, tySh_ok, gw 193 (by decide +kernel) (by decide +kernel), gw 194 (by decide +kernel) (by decide +kernel), gw 54 (by decide +kernel) (by decide +kernel), by decide +kernel, fun _ => rfl⟩
theorem ffX_30 : ∀ t ∈ [11], FF "TreeSteps" 30 t 2 (.object "TreeSteps$Weigher") := by
  intro t ht
  rw [List.mem_singleton.mp ht]
  exact ⟨RX, TX, 9, tyX, rfl, by decide, inX, tyX_ok, nmX, rfl, rfl, rfl, (gw 248 (by decide +kernel) (by decide +kernel))⟩
theorem lcWe_init : LC yWe_init cWe_init 3 none 2 := ⟨gw 177 (by decide +kernel) (by decide +kernel), gw 53 (by decide +kernel) (by decide +kernel), by decide +kernel, by decide +kernel⟩
theorem liX_27 : LI "TreeSteps" 27 yWe_init cWe_init 3 2 := ⟨Or.inl (gw 175 (by decide +kernel) (by decide +kernel)), rfl, gw 176 (by decide +kernel) (by decide +kernel), lcWe_init⟩
theorem fgX_21 : ∀ t ∈ [11], FG "TreeSteps" 21 t 1 := by
  intro t ht
  rw [List.mem_singleton.mp ht]
  exact ⟨RX, TX, 9, rfl, by decide, inX, Or.inl (gw 247 (by decide +kernel) (by decide +kernel))⟩
theorem noX_25 : NO "TreeSteps" 25 10 4 [.null, .null, .null, .null] := ⟨RWe, TWe, tyWe, rfl, inWe, tyWe_ok, gw 173 (by decide +kernel) (by decide +kernel), gw 174 (by decide +kernel) (by decide +kernel), gw 53 (by decide +kernel) (by decide +kernel), by decide +kernel, fun _ => rfl⟩
theorem ffX_21 : ∀ t ∈ [11], FF "TreeSteps" 21 t 1 (.object "TreeSteps$Forest") := by
  intro t ht
  rw [List.mem_singleton.mp ht]
  exact ⟨RX, TX, 9, tyX, rfl, by decide, inX, tyX_ok, nmX, rfl, rfl, rfl, (gw 247 (by decide +kernel) (by decide +kernel))⟩
theorem lcFo_init : LC yFo_init cFo_init 3 none 0 := ⟨gw 93 (by decide +kernel) (by decide +kernel), gw 52 (by decide +kernel) (by decide +kernel), by decide +kernel, by decide +kernel⟩
theorem liX_20 : LI "TreeSteps" 20 yFo_init cFo_init 3 0 := ⟨Or.inl (gw 91 (by decide +kernel) (by decide +kernel)), rfl, gw 92 (by decide +kernel) (by decide +kernel), lcFo_init⟩
theorem noX_18 : NO "TreeSteps" 18 0 9 [.null, .null, .null, .null, .null, .null, .null, .null, .null] := ⟨RFo, TFo, tyFo, rfl, inFo, tyFo_ok, gw 89 (by decide +kernel) (by decide +kernel), gw 90 (by decide +kernel) (by decide +kernel), gw 52 (by decide +kernel) (by decide +kernel), by decide +kernel, fun _ => rfl⟩
theorem kiX_244 : Cond.constant "TreeSteps" 244 (-1000010:Int32) ∈ gtbl := gw 286 (by decide +kernel) (by decide +kernel)
theorem fpX_93 : ∀ t ∈ [11], FP "TreeSteps" 93 t 8 (.int) := by
  intro t ht
  rw [List.mem_singleton.mp ht]
  exact ⟨RX, TX, 9, tyX, rfl, by decide, inX, tyX_ok, nmX, rfl, rfl, Or.inl (gw 254 (by decide +kernel) (by decide +kernel))⟩
theorem fgSt_9 : ∀ t ∈ [6], FG "TreeSteps$Sheet" 9 t 0 := by
  intro t ht
  rw [List.mem_singleton.mp ht]
  exact ⟨RSt, TSt, 3, rfl, by decide, inSt, Or.inl (gw 231 (by decide +kernel) (by decide +kernel))⟩
theorem kiX_71 : Cond.constant "TreeSteps" 71 (-1000001:Int32) ∈ gtbl := gw 281 (by decide +kernel) (by decide +kernel)
theorem lcX_well : LC yX_well cX_well 2 (some .int) 1 := ⟨gw 294 (by decide +kernel) (by decide +kernel), gw 50 (by decide +kernel) (by decide +kernel), by decide +kernel, by decide +kernel⟩
theorem lmX_80 : LM "TreeSteps" 80 11 yX_well cX_well 2 (some .int) 1 := ⟨RX, TX, 9, rfl, gw 291 (by decide +kernel) (by decide +kernel), gw 293 (by decide +kernel) (by decide +kernel), gw 8 (by decide +kernel) (by decide +kernel), lcX_well⟩
theorem lcSt_begin : LC ySt_begin cSt_begin 4 none 2 := ⟨gw 290 (by decide +kernel) (by decide +kernel), gw 56 (by decide +kernel) (by decide +kernel), by decide +kernel, by decide +kernel⟩
theorem lmX_76 : LM "TreeSteps" 76 6 ySt_begin cSt_begin 4 none 2 := ⟨RSt, TSt, 3, rfl, gw 287 (by decide +kernel) (by decide +kernel), gw 288 (by decide +kernel) (by decide +kernel), gw 289 (by decide +kernel) (by decide +kernel), lcSt_begin⟩
theorem lcX_found : LC yX_found cX_found 2 (some .int) 1 := ⟨gw 285 (by decide +kernel) (by decide +kernel), gw 50 (by decide +kernel) (by decide +kernel), by decide +kernel, by decide +kernel⟩
theorem lmX_72 : LM "TreeSteps" 72 11 yX_found cX_found 2 (some .int) 1 := ⟨RX, TX, 9, rfl, gw 282 (by decide +kernel) (by decide +kernel), gw 284 (by decide +kernel) (by decide +kernel), gw 7 (by decide +kernel) (by decide +kernel), lcX_found⟩
theorem lcX_noSheet : LC yX_noSheet cX_noSheet 1 (some .boolean) 1 := ⟨gw 280 (by decide +kernel) (by decide +kernel), gw 50 (by decide +kernel) (by decide +kernel), by decide +kernel, by decide +kernel⟩
theorem lsX_67 : LSt "TreeSteps" 67 yX_noSheet cX_noSheet 1 (some .boolean) 1 := ⟨gw 278 (by decide +kernel) (by decide +kernel), gw 279 (by decide +kernel) (by decide +kernel), lcX_noSheet⟩
theorem fgSt_15 : ∀ t ∈ [6], FG "TreeSteps$Sheet" 15 t 1 := by
  intro t ht
  rw [List.mem_singleton.mp ht]
  exact ⟨RSt, TSt, 3, rfl, by decide, inSt, Or.inl (gw 233 (by decide +kernel) (by decide +kernel))⟩
theorem fgSt_19 : ∀ t ∈ [6], FG "TreeSteps$Sheet" 19 t 2 := by
  intro t ht
  rw [List.mem_singleton.mp ht]
  exact ⟨RSt, TSt, 3, rfl, by decide, inSt, Or.inl (gw 235 (by decide +kernel) (by decide +kernel))⟩
theorem lcSt_put : LC ySt_put cSt_put 4 (some .long) 2 := ⟨gw 311 (by decide +kernel) (by decide +kernel), gw 56 (by decide +kernel) (by decide +kernel), by decide +kernel, by decide +kernel⟩
theorem lmX_97 : LM "TreeSteps" 97 6 ySt_put cSt_put 4 (some .long) 2 := ⟨RSt, TSt, 3, rfl, gw 308 (by decide +kernel) (by decide +kernel), gw 309 (by decide +kernel) (by decide +kernel), gw 310 (by decide +kernel) (by decide +kernel), lcSt_put⟩
theorem lcSt_holds : LC ySt_holds cSt_holds 3 (some .boolean) 2 := ⟨gw 307 (by decide +kernel) (by decide +kernel), gw 56 (by decide +kernel) (by decide +kernel), by decide +kernel, by decide +kernel⟩
theorem lmX_89 : LM "TreeSteps" 89 6 ySt_holds cSt_holds 3 (some .boolean) 2 := ⟨RSt, TSt, 3, rfl, gw 304 (by decide +kernel) (by decide +kernel), gw 305 (by decide +kernel) (by decide +kernel), gw 306 (by decide +kernel) (by decide +kernel), lcSt_holds⟩
theorem lcSt_missing : LC ySt_missing cSt_missing 1 (some .boolean) 0 := ⟨gw 303 (by decide +kernel) (by decide +kernel), gw 56 (by decide +kernel) (by decide +kernel), by decide +kernel, by decide +kernel⟩
theorem lmX_85 : LM "TreeSteps" 85 6 ySt_missing cSt_missing 1 (some .boolean) 0 := ⟨RSt, TSt, 3, rfl, gw 300 (by decide +kernel) (by decide +kernel), gw 301 (by decide +kernel) (by decide +kernel), gw 302 (by decide +kernel) (by decide +kernel), lcSt_missing⟩
theorem klX_83 : Cond.constantLong "TreeSteps" 83 (-1000001:Int64) ∈ gtbl := gw 299 (by decide +kernel) (by decide +kernel)
theorem mlX_107 : (Cond.methodLink "TreeSteps" (107 : Nat) ({ cls := "java/lang/System", name := "arraycopy", desc := "(Ljava/lang/Object;ILjava/lang/Object;II)V" } : MethodName)) ∈ gtbl := gw 316 (by decide +kernel) (by decide +kernel)
theorem acN : (Cond.native ({ cls := "java/lang/System", name := "arraycopy", desc := "(Ljava/lang/Object;ILjava/lang/Object;II)V" } : MethodName)) ∈ gtbl := gw 318 (by decide +kernel) (by decide +kernel)
theorem acS : (Cond.static ({ cls := "java/lang/System", name := "arraycopy", desc := "(Ljava/lang/Object;ILjava/lang/Object;II)V" } : MethodName)) ∈ gtbl := gw 317 (by decide +kernel) (by decide +kernel)
theorem acI : (Cond.initialized "java/lang/System") ∈ gtbl := gw 58 (by decide +kernel) (by decide +kernel)
theorem fgX_104 : ∀ t ∈ [6], FG "TreeSteps" 104 t 0 := by
  intro t ht
  rw [List.mem_singleton.mp ht]
  exact ⟨RSt, TSt, 3, rfl, by decide, inSt, Or.inr ⟨"TreeSteps", nw 232 (by decide +kernel) (by decide +kernel)⟩⟩
theorem fgX_101 : ∀ t ∈ [6], FG "TreeSteps" 101 t 1 := by
  intro t ht
  rw [List.mem_singleton.mp ht]
  exact ⟨RSt, TSt, 3, rfl, by decide, inSt, Or.inr ⟨"TreeSteps", nw 234 (by decide +kernel) (by decide +kernel)⟩⟩
theorem fgX_113 : ∀ t ∈ [6], FG "TreeSteps" 113 t 2 := by
  intro t ht
  rw [List.mem_singleton.mp ht]
  exact ⟨RSt, TSt, 3, rfl, by decide, inSt, Or.inr ⟨"TreeSteps", nw 236 (by decide +kernel) (by decide +kernel)⟩⟩
theorem fpX_101 : ∀ t ∈ [6], FP "TreeSteps" 101 t 1 (.int) := by
  intro t ht
  rw [List.mem_singleton.mp ht]
  exact ⟨RSt, TSt, 3, tySt, rfl, by decide, inSt, tySt_ok, nmSt, rfl, rfl, Or.inr ⟨"TreeSteps", nw 234 (by decide +kernel) (by decide +kernel)⟩⟩
theorem lcFo_howMany : LC yFo_howMany cFo_howMany 4 (some .int) 1 := ⟨gw 330 (by decide +kernel) (by decide +kernel), gw 52 (by decide +kernel) (by decide +kernel), by decide +kernel, by decide +kernel⟩
theorem lmX_116 : LM "TreeSteps" 116 0 yFo_howMany cFo_howMany 4 (some .int) 1 := ⟨RFo, TFo, 9, rfl, gw 327 (by decide +kernel) (by decide +kernel), gw 328 (by decide +kernel) (by decide +kernel), gw 329 (by decide +kernel) (by decide +kernel), lcFo_howMany⟩
theorem fgX_122 : ∀ t ∈ [0], FG "TreeSteps" 122 t 1 := by
  intro t ht
  rw [List.mem_singleton.mp ht]
  exact ⟨RFo, TFo, 9, rfl, by decide, inFo, Or.inr ⟨"TreeSteps", nw 139 (by decide +kernel) (by decide +kernel)⟩⟩
theorem fgX_126 : ∀ t ∈ [0], FG "TreeSteps" 126 t 2 := by
  intro t ht
  rw [List.mem_singleton.mp ht]
  exact ⟨RFo, TFo, 9, rfl, by decide, inFo, Or.inr ⟨"TreeSteps", nw 141 (by decide +kernel) (by decide +kernel)⟩⟩
theorem fgX_129 : ∀ t ∈ [0], FG "TreeSteps" 129 t 3 := by
  intro t ht
  rw [List.mem_singleton.mp ht]
  exact ⟨RFo, TFo, 9, rfl, by decide, inFo, Or.inr ⟨"TreeSteps", nw 143 (by decide +kernel) (by decide +kernel)⟩⟩
theorem fgX_132 : ∀ t ∈ [0], FG "TreeSteps" 132 t 4 := by
  intro t ht
  rw [List.mem_singleton.mp ht]
  exact ⟨RFo, TFo, 9, rfl, by decide, inFo, Or.inr ⟨"TreeSteps", nw 145 (by decide +kernel) (by decide +kernel)⟩⟩
theorem lcX_noTree : LC yX_noTree cX_noTree 1 (some .boolean) 1 := ⟨gw 337 (by decide +kernel) (by decide +kernel), gw 50 (by decide +kernel) (by decide +kernel), by decide +kernel, by decide +kernel⟩
theorem lsX_119 : LSt "TreeSteps" 119 yX_noTree cX_noTree 1 (some .boolean) 1 := ⟨gw 335 (by decide +kernel) (by decide +kernel), gw 336 (by decide +kernel) (by decide +kernel), lcX_noTree⟩
theorem kiX_135 : Cond.constant "TreeSteps" 135 (-1000000:Int32) ∈ gtbl := gw 342 (by decide +kernel) (by decide +kernel)
theorem fgX_136 : ∀ t ∈ [0], FG "TreeSteps" 136 t 0 := by
  intro t ht
  rw [List.mem_singleton.mp ht]
  exact ⟨RFo, TFo, 9, rfl, by decide, inFo, Or.inr ⟨"TreeSteps", nw 136 (by decide +kernel) (by decide +kernel)⟩⟩
theorem fgX_140 : ∀ t ∈ [0], FG "TreeSteps" 140 t 7 := by
  intro t ht
  rw [List.mem_singleton.mp ht]
  exact ⟨RFo, TFo, 9, rfl, by decide, inFo, Or.inr ⟨"TreeSteps", nw 151 (by decide +kernel) (by decide +kernel)⟩⟩
theorem mlSg_3 : (Cond.methodLink "TreeSteps$Stages" (3 : Nat) ({ cls := "java/lang/Object", name := "<init>", desc := "()V" } : MethodName)) ∈ gtbl := gw 359 (by decide +kernel) (by decide +kernel)
theorem lcMa_min : LC yMa_min cMa_min 2 (some .int) 2 := ⟨gw 362 (by decide +kernel) (by decide +kernel), gw 60 (by decide +kernel) (by decide +kernel), by decide +kernel, by decide +kernel⟩
theorem lsSg_9 : LSt "TreeSteps$Stages" 9 yMa_min cMa_min 2 (some .int) 2 := ⟨gw 360 (by decide +kernel) (by decide +kernel), gw 361 (by decide +kernel) (by decide +kernel), lcMa_min⟩
theorem ffSg_21 : ∀ t ∈ [7], FF "TreeSteps$Stages" 21 t 1 (.array (.int)) := by
  intro t ht
  rw [List.mem_singleton.mp ht]
  exact ⟨RSg, TSg, 2, tySg, rfl, by decide, inSg, tySg_ok, nmSg, rfl, rfl, rfl, (gw 368 (by decide +kernel) (by decide +kernel))⟩
theorem fgSg_15 : ∀ t ∈ [7], FG "TreeSteps$Stages" 15 t 0 := by
  intro t ht
  rw [List.mem_singleton.mp ht]
  exact ⟨RSg, TSg, 2, rfl, by decide, inSg, Or.inl (gw 363 (by decide +kernel) (by decide +kernel))⟩
theorem ffSg_15 : ∀ t ∈ [7], FF "TreeSteps$Stages" 15 t 0 (.int) := by
  intro t ht
  rw [List.mem_singleton.mp ht]
  exact ⟨RSg, TSg, 2, tySg, rfl, by decide, inSg, tySg_ok, nmSg, rfl, rfl, rfl, (gw 363 (by decide +kernel) (by decide +kernel))⟩
theorem lcMa_floorMod : LC yMa_floorMod cMa_floorMod 6 (some .long) 2 := ⟨gw 385 (by decide +kernel) (by decide +kernel), gw 60 (by decide +kernel) (by decide +kernel), by decide +kernel, by decide +kernel⟩
theorem lsMo_20 : LSt "TreeSteps$Modulus" 20 yMa_floorMod cMa_floorMod 6 (some .long) 2 := ⟨gw 383 (by decide +kernel) (by decide +kernel), gw 384 (by decide +kernel) (by decide +kernel), lcMa_floorMod⟩
theorem fgMo_15 : ∀ t ∈ [3], FG "TreeSteps$Modulus" 15 t 0 := by
  intro t ht
  rw [List.mem_singleton.mp ht]
  exact ⟨RMo, TMo, 1, rfl, by decide, inMo, Or.inl (gw 84 (by decide +kernel) (by decide +kernel))⟩
theorem lcMo_times : LC yMo_times cMo_times 5 (some .long) 2 := ⟨gw 398 (by decide +kernel) (by decide +kernel), gw 51 (by decide +kernel) (by decide +kernel), by decide +kernel, by decide +kernel⟩
theorem lmMo_26 : LM "TreeSteps$Modulus" 26 3 yMo_times cMo_times 5 (some .long) 2 := ⟨RMo, TMo, 1, rfl, gw 395 (by decide +kernel) (by decide +kernel), gw 396 (by decide +kernel) (by decide +kernel), gw 397 (by decide +kernel) (by decide +kernel), lcMo_times⟩
theorem klMo_29 : Cond.constantLong "TreeSteps$Modulus" 29 (2:Int64) ∈ gtbl := gw 390 (by decide +kernel) (by decide +kernel)
theorem lcMo_power : LC yMo_power cMo_power 10 (some .long) 2 := ⟨gw 394 (by decide +kernel) (by decide +kernel), gw 51 (by decide +kernel) (by decide +kernel), by decide +kernel, by decide +kernel⟩
theorem lmMo_31 : LM "TreeSteps$Modulus" 31 3 yMo_power cMo_power 10 (some .long) 2 := ⟨RMo, TMo, 1, rfl, gw 391 (by decide +kernel) (by decide +kernel), gw 392 (by decide +kernel) (by decide +kernel), gw 393 (by decide +kernel) (by decide +kernel), lcMo_power⟩
theorem lmX_252 : LM "TreeSteps" 252 3 yMo_times cMo_times 5 (some .long) 2 := ⟨RMo, TMo, 1, rfl, gw 399 (by decide +kernel) (by decide +kernel), gw 396 (by decide +kernel) (by decide +kernel), gw 397 (by decide +kernel) (by decide +kernel), lcMo_times⟩
theorem lcMo_inverse : LC yMo_inverse cMo_inverse 3 (some .long) 1 := ⟨gw 389 (by decide +kernel) (by decide +kernel), gw 51 (by decide +kernel) (by decide +kernel), by decide +kernel, by decide +kernel⟩
theorem lmX_249 : LM "TreeSteps" 249 3 yMo_inverse cMo_inverse 3 (some .long) 1 := ⟨RMo, TMo, 1, rfl, gw 386 (by decide +kernel) (by decide +kernel), gw 387 (by decide +kernel) (by decide +kernel), gw 388 (by decide +kernel) (by decide +kernel), lcMo_inverse⟩
theorem lcMo_of : LC yMo_of cMo_of 3 (some .long) 1 := ⟨gw 382 (by decide +kernel) (by decide +kernel), gw 51 (by decide +kernel) (by decide +kernel), by decide +kernel, by decide +kernel⟩
theorem lmX_245 : LM "TreeSteps" 245 3 yMo_of cMo_of 3 (some .long) 1 := ⟨RMo, TMo, 1, rfl, gw 379 (by decide +kernel) (by decide +kernel), gw 380 (by decide +kernel) (by decide +kernel), gw 381 (by decide +kernel) (by decide +kernel), lcMo_of⟩
theorem lmWe_40 : LM "TreeSteps$Weigher" 40 3 yMo_times cMo_times 5 (some .long) 2 := ⟨RMo, TMo, 1, rfl, gw 412 (by decide +kernel) (by decide +kernel), gw 396 (by decide +kernel) (by decide +kernel), gw 397 (by decide +kernel) (by decide +kernel), lcMo_times⟩
theorem fgWe_62 : ∀ t ∈ [0], FG "TreeSteps$Weigher" 62 t 6 := by
  intro t ht
  rw [List.mem_singleton.mp ht]
  exact ⟨RFo, TFo, 9, rfl, by decide, inFo, Or.inr ⟨"TreeSteps", nw 149 (by decide +kernel) (by decide +kernel)⟩⟩
theorem fgWe_22 : ∀ t ∈ [10], FG "TreeSteps$Weigher" 22 t 1 := by
  intro t ht
  rw [List.mem_singleton.mp ht]
  exact ⟨RWe, TWe, 4, rfl, by decide, inWe, Or.inl (gw 180 (by decide +kernel) (by decide +kernel))⟩
theorem fgWe_15 : ∀ t ∈ [10], FG "TreeSteps$Weigher" 15 t 3 := by
  intro t ht
  rw [List.mem_singleton.mp ht]
  exact ⟨RWe, TWe, 4, rfl, by decide, inWe, Or.inl (gw 182 (by decide +kernel) (by decide +kernel))⟩
theorem fgWe_18 : ∀ t ∈ [10], FG "TreeSteps$Weigher" 18 t 0 := by
  intro t ht
  rw [List.mem_singleton.mp ht]
  exact ⟨RWe, TWe, 4, rfl, by decide, inWe, Or.inl (gw 179 (by decide +kernel) (by decide +kernel))⟩
theorem fgWe_9 : ∀ t ∈ [10], FG "TreeSteps$Weigher" 9 t 2 := by
  intro t ht
  rw [List.mem_singleton.mp ht]
  exact ⟨RWe, TWe, 4, rfl, by decide, inWe, Or.inl (gw 181 (by decide +kernel) (by decide +kernel))⟩
theorem fgWe_59 : ∀ t ∈ [0], FG "TreeSteps$Weigher" 59 t 5 := by
  intro t ht
  rw [List.mem_singleton.mp ht]
  exact ⟨RFo, TFo, 9, rfl, by decide, inFo, Or.inr ⟨"TreeSteps", nw 147 (by decide +kernel) (by decide +kernel)⟩⟩
theorem fgSg_21 : ∀ t ∈ [7], FG "TreeSteps$Stages" 21 t 1 := by
  intro t ht
  rw [List.mem_singleton.mp ht]
  exact ⟨RSg, TSg, 2, rfl, by decide, inSg, Or.inl (gw 368 (by decide +kernel) (by decide +kernel))⟩
theorem fgWe_26 : ∀ t ∈ [7], FG "TreeSteps$Weigher" 26 t 0 := by
  intro t ht
  rw [List.mem_singleton.mp ht]
  exact ⟨RSg, TSg, 2, rfl, by decide, inSg, Or.inr ⟨"TreeSteps", nw 365 (by decide +kernel) (by decide +kernel)⟩⟩
theorem lcMo_plus : LC yMo_plus cMo_plus 5 (some .long) 2 := ⟨gw 420 (by decide +kernel) (by decide +kernel), gw 51 (by decide +kernel) (by decide +kernel), by decide +kernel, by decide +kernel⟩
theorem lmWe_46 : LM "TreeSteps$Weigher" 46 3 yMo_plus cMo_plus 5 (some .long) 2 := ⟨RMo, TMo, 1, rfl, gw 417 (by decide +kernel) (by decide +kernel), gw 418 (by decide +kernel) (by decide +kernel), gw 419 (by decide +kernel) (by decide +kernel), lcMo_plus⟩
theorem lcSg_a : LC ySg_a cSg_a 3 (some .long) 2 := ⟨gw 428 (by decide +kernel) (by decide +kernel), gw 59 (by decide +kernel) (by decide +kernel), by decide +kernel, by decide +kernel⟩
theorem lmWe_65 : LM "TreeSteps$Weigher" 65 7 ySg_a cSg_a 3 (some .long) 2 := ⟨RSg, TSg, 2, rfl, gw 425 (by decide +kernel) (by decide +kernel), gw 426 (by decide +kernel) (by decide +kernel), gw 427 (by decide +kernel) (by decide +kernel), lcSg_a⟩
theorem lcWe_hangUp : LC yWe_hangUp cWe_hangUp 8 none 2 := ⟨gw 424 (by decide +kernel) (by decide +kernel), gw 53 (by decide +kernel) (by decide +kernel), by decide +kernel, by decide +kernel⟩
theorem lmWe_55 : LM "TreeSteps$Weigher" 55 10 yWe_hangUp cWe_hangUp 8 none 2 := ⟨RWe, TWe, 4, rfl, gw 421 (by decide +kernel) (by decide +kernel), gw 423 (by decide +kernel) (by decide +kernel), gw 12 (by decide +kernel) (by decide +kernel), lcWe_hangUp⟩
theorem fgWe_49 : ∀ t ∈ [0], FG "TreeSteps$Weigher" 49 t 1 := by
  intro t ht
  rw [List.mem_singleton.mp ht]
  exact ⟨RFo, TFo, 9, rfl, by decide, inFo, Or.inr ⟨"TreeSteps", nw 138 (by decide +kernel) (by decide +kernel)⟩⟩
theorem lcSg_b : LC ySg_b cSg_b 2 (some .long) 1 := ⟨gw 416 (by decide +kernel) (by decide +kernel), gw 59 (by decide +kernel) (by decide +kernel), by decide +kernel, by decide +kernel⟩
theorem lmWe_36 : LM "TreeSteps$Weigher" 36 7 ySg_b cSg_b 2 (some .long) 1 := ⟨RSg, TSg, 2, rfl, gw 413 (by decide +kernel) (by decide +kernel), gw 414 (by decide +kernel) (by decide +kernel), gw 415 (by decide +kernel) (by decide +kernel), lcSg_b⟩
theorem lcWe_root : LC yWe_root cWe_root 6 none 2 := ⟨gw 411 (by decide +kernel) (by decide +kernel), gw 53 (by decide +kernel) (by decide +kernel), by decide +kernel, by decide +kernel⟩
theorem lmWe_32 : LM "TreeSteps$Weigher" 32 10 yWe_root cWe_root 6 none 2 := ⟨RWe, TWe, 4, rfl, gw 408 (by decide +kernel) (by decide +kernel), gw 410 (by decide +kernel) (by decide +kernel), gw 11 (by decide +kernel) (by decide +kernel), lcWe_root⟩
theorem lmSg_25 : LM "TreeSteps$Stages" 25 7 ySg_a cSg_a 3 (some .long) 2 := ⟨RSg, TSg, 2, rfl, gw 441 (by decide +kernel) (by decide +kernel), gw 426 (by decide +kernel) (by decide +kernel), gw 427 (by decide +kernel) (by decide +kernel), lcSg_a⟩
theorem mlTa_3 : (Cond.methodLink "TreeSteps$Table" (3 : Nat) ({ cls := "java/lang/Object", name := "<init>", desc := "()V" } : MethodName)) ∈ gtbl := gw 453 (by decide +kernel) (by decide +kernel)
theorem ffTa_23 : ∀ t ∈ [8, 1, 2, 4], FF "TreeSteps$Table" 23 t 3 (.int) := by
  intro t ht
  simp only [List.mem_cons, List.not_mem_nil, or_false] at ht
  rcases ht with rfl | rfl | rfl | rfl
  · exact ⟨RTa, TTa, 4, tyTa, rfl, by decide, inTa, tyTa_ok, nmTa, rfl, rfl, rfl, (gw 460 (by decide +kernel) (by decide +kernel))⟩
  · exact ⟨RKe, TKe, 4, tyKe, rfl, by decide, inKe, tyKe_ok, nmKe, rfl, rfl, rfl, (gw 460 (by decide +kernel) (by decide +kernel))⟩
  · exact ⟨RLo, TLo, 4, tyLo, rfl, by decide, inLo, tyLo_ok, nmLo, rfl, rfl, rfl, (gw 460 (by decide +kernel) (by decide +kernel))⟩
  · exact ⟨RPl, TPl, 4, tyPl, rfl, by decide, inPl, tyPl_ok, nmPl, rfl, rfl, rfl, (gw 460 (by decide +kernel) (by decide +kernel))⟩
theorem ffTa_19 : ∀ t ∈ [8, 1, 2, 4], FF "TreeSteps$Table" 19 t 2 (.int) := by
  intro t ht
  simp only [List.mem_cons, List.not_mem_nil, or_false] at ht
  rcases ht with rfl | rfl | rfl | rfl
  · exact ⟨RTa, TTa, 4, tyTa, rfl, by decide, inTa, tyTa_ok, nmTa, rfl, rfl, rfl, (gw 458 (by decide +kernel) (by decide +kernel))⟩
  · exact ⟨RKe, TKe, 4, tyKe, rfl, by decide, inKe, tyKe_ok, nmKe, rfl, rfl, rfl, (gw 458 (by decide +kernel) (by decide +kernel))⟩
  · exact ⟨RLo, TLo, 4, tyLo, rfl, by decide, inLo, tyLo_ok, nmLo, rfl, rfl, rfl, (gw 458 (by decide +kernel) (by decide +kernel))⟩
  · exact ⟨RPl, TPl, 4, tyPl, rfl, by decide, inPl, tyPl_ok, nmPl, rfl, rfl, rfl, (gw 458 (by decide +kernel) (by decide +kernel))⟩
theorem ffTa_15 : ∀ t ∈ [8, 1, 2, 4], FF "TreeSteps$Table" 15 t 1 (.array (.int)) := by
  intro t ht
  simp only [List.mem_cons, List.not_mem_nil, or_false] at ht
  rcases ht with rfl | rfl | rfl | rfl
  · exact ⟨RTa, TTa, 4, tyTa, rfl, by decide, inTa, tyTa_ok, nmTa, rfl, rfl, rfl, (gw 456 (by decide +kernel) (by decide +kernel))⟩
  · exact ⟨RKe, TKe, 4, tyKe, rfl, by decide, inKe, tyKe_ok, nmKe, rfl, rfl, rfl, (gw 456 (by decide +kernel) (by decide +kernel))⟩
  · exact ⟨RLo, TLo, 4, tyLo, rfl, by decide, inLo, tyLo_ok, nmLo, rfl, rfl, rfl, (gw 456 (by decide +kernel) (by decide +kernel))⟩
  · exact ⟨RPl, TPl, 4, tyPl, rfl, by decide, inPl, tyPl_ok, nmPl, rfl, rfl, rfl, (gw 456 (by decide +kernel) (by decide +kernel))⟩
theorem ffTa_9 : ∀ t ∈ [8, 1, 2, 4], FF "TreeSteps$Table" 9 t 0 (.object "TreeSteps$Stages") := by
  intro t ht
  simp only [List.mem_cons, List.not_mem_nil, or_false] at ht
  rcases ht with rfl | rfl | rfl | rfl
  · exact ⟨RTa, TTa, 4, tyTa, rfl, by decide, inTa, tyTa_ok, nmTa, rfl, rfl, rfl, (gw 454 (by decide +kernel) (by decide +kernel))⟩
  · exact ⟨RKe, TKe, 4, tyKe, rfl, by decide, inKe, tyKe_ok, nmKe, rfl, rfl, rfl, (gw 454 (by decide +kernel) (by decide +kernel))⟩
  · exact ⟨RLo, TLo, 4, tyLo, rfl, by decide, inLo, tyLo_ok, nmLo, rfl, rfl, rfl, (gw 454 (by decide +kernel) (by decide +kernel))⟩
  · exact ⟨RPl, TPl, 4, tyPl, rfl, by decide, inPl, tyPl_ok, nmPl, rfl, rfl, rfl, (gw 454 (by decide +kernel) (by decide +kernel))⟩
theorem lcTa_init : LC yTa_init cTa_init 5 none 4 := ⟨gw 452 (by decide +kernel) (by decide +kernel), gw 61 (by decide +kernel) (by decide +kernel), by decide +kernel, by decide +kernel⟩
theorem liLo_3 : LI "TreeSteps$Lower" 3 yTa_init cTa_init 5 4 := ⟨Or.inl (gw 450 (by decide +kernel) (by decide +kernel)), rfl, gw 451 (by decide +kernel) (by decide +kernel), lcTa_init⟩
theorem lcLo_init : LC yLo_init cLo_init 5 none 4 := ⟨gw 449 (by decide +kernel) (by decide +kernel), gw 62 (by decide +kernel) (by decide +kernel), by decide +kernel, by decide +kernel⟩
theorem liPl_3 : LI "TreeSteps$Plain" 3 yLo_init cLo_init 5 4 := ⟨Or.inl (gw 447 (by decide +kernel) (by decide +kernel)), rfl, gw 448 (by decide +kernel) (by decide +kernel), lcLo_init⟩
theorem fgX_164 : ∀ t ∈ [7], FG "TreeSteps" 164 t 0 := by
  intro t ht
  rw [List.mem_singleton.mp ht]
  exact ⟨RSg, TSg, 2, rfl, by decide, inSg, Or.inr ⟨"TreeSteps", nw 367 (by decide +kernel) (by decide +kernel)⟩⟩
theorem lmX_187 : LM "TreeSteps" 187 7 ySg_b cSg_b 2 (some .long) 1 := ⟨RSg, TSg, 2, rfl, gw 475 (by decide +kernel) (by decide +kernel), gw 414 (by decide +kernel) (by decide +kernel), gw 415 (by decide +kernel) (by decide +kernel), lcSg_b⟩
theorem lmX_297 : LM "TreeSteps" 297 3 yMo_plus cMo_plus 5 (some .long) 2 := ⟨RMo, TMo, 1, rfl, gw 477 (by decide +kernel) (by decide +kernel), gw 418 (by decide +kernel) (by decide +kernel), gw 419 (by decide +kernel) (by decide +kernel), lcMo_plus⟩
theorem lmX_191 : LM "TreeSteps" 191 7 ySg_a cSg_a 3 (some .long) 2 := ⟨RSg, TSg, 2, rfl, gw 476 (by decide +kernel) (by decide +kernel), gw 426 (by decide +kernel) (by decide +kernel), gw 427 (by decide +kernel) (by decide +kernel), lcSg_a⟩
theorem liKe_3 : LI "TreeSteps$Keeping" 3 yTa_init cTa_init 5 4 := ⟨Or.inl (gw 483 (by decide +kernel) (by decide +kernel)), rfl, gw 451 (by decide +kernel) (by decide +kernel), lcTa_init⟩
theorem lcX_firstMisfit : LC yX_firstMisfit cX_firstMisfit 3 (some .int) 1 := ⟨gw 436 (by decide +kernel) (by decide +kernel), gw 50 (by decide +kernel) (by decide +kernel), by decide +kernel, by decide +kernel⟩
theorem lmX_274 : LM "TreeSteps" 274 11 yX_firstMisfit cX_firstMisfit 3 (some .int) 1 := ⟨RX, TX, 9, rfl, gw 433 (by decide +kernel) (by decide +kernel), gw 435 (by decide +kernel) (by decide +kernel), gw 14 (by decide +kernel) (by decide +kernel), lcX_firstMisfit⟩
theorem liX_296 : LI "TreeSteps" 296 yTa_init cTa_init 5 4 := ⟨Or.inl (gw 498 (by decide +kernel) (by decide +kernel)), rfl, gw 451 (by decide +kernel) (by decide +kernel), lcTa_init⟩
theorem noX_57 : NO "TreeSteps" 57 8 4 [.null, .null, .int 0, .int 0] := ⟨RTa, TTa, tyTa, rfl, inTa, tyTa_ok, gw 244 (by decide +kernel) (by decide +kernel), gw 497 (by decide +kernel) (by decide +kernel), gw 61 (by decide +kernel) (by decide +kernel), by decide +kernel, fun _ => rfl⟩
theorem liX_295 : LI "TreeSteps" 295 yLo_init cLo_init 5 4 := ⟨Or.inl (gw 491 (by decide +kernel) (by decide +kernel)), rfl, gw 448 (by decide +kernel) (by decide +kernel), lcLo_init⟩
theorem noX_293 : NO "TreeSteps" 293 2 4 [.null, .null, .int 0, .int 0] := ⟨RLo, TLo, tyLo, rfl, inLo, tyLo_ok, gw 489 (by decide +kernel) (by decide +kernel), gw 490 (by decide +kernel) (by decide +kernel), gw 62 (by decide +kernel) (by decide +kernel), by decide +kernel, fun _ => rfl⟩
theorem lcSg_zeroFrom : LC ySg_zeroFrom cSg_zeroFrom 4 (some .boolean) 1 := ⟨gw 440 (by decide +kernel) (by decide +kernel), gw 59 (by decide +kernel) (by decide +kernel), by decide +kernel, by decide +kernel⟩
theorem lmX_278 : LM "TreeSteps" 278 7 ySg_zeroFrom cSg_zeroFrom 4 (some .boolean) 1 := ⟨RSg, TSg, 2, rfl, gw 437 (by decide +kernel) (by decide +kernel), gw 438 (by decide +kernel) (by decide +kernel), gw 439 (by decide +kernel) (by decide +kernel), lcSg_zeroFrom⟩
theorem lcKe_init : LC yKe_init cKe_init 5 none 4 := ⟨gw 482 (by decide +kernel) (by decide +kernel), gw 64 (by decide +kernel) (by decide +kernel), by decide +kernel, by decide +kernel⟩
theorem liX_292 : LI "TreeSteps" 292 yKe_init cKe_init 5 4 := ⟨Or.inl (gw 480 (by decide +kernel) (by decide +kernel)), rfl, gw 481 (by decide +kernel) (by decide +kernel), lcKe_init⟩
theorem noX_290 : NO "TreeSteps" 290 1 4 [.null, .null, .int 0, .int 0] := ⟨RKe, TKe, tyKe, rfl, inKe, tyKe_ok, gw 478 (by decide +kernel) (by decide +kernel), gw 479 (by decide +kernel) (by decide +kernel), gw 64 (by decide +kernel) (by decide +kernel), by decide +kernel, fun _ => rfl⟩
theorem lcX_keeps : LC yX_keeps cX_keeps 8 (some .boolean) 1 := ⟨gw 474 (by decide +kernel) (by decide +kernel), gw 50 (by decide +kernel) (by decide +kernel), by decide +kernel, by decide +kernel⟩
theorem lmX_286 : LM "TreeSteps" 286 11 yX_keeps cX_keeps 8 (some .boolean) 1 := ⟨RX, TX, 9, rfl, gw 471 (by decide +kernel) (by decide +kernel), gw 473 (by decide +kernel) (by decide +kernel), gw 15 (by decide +kernel) (by decide +kernel), lcX_keeps⟩
theorem lcPl_init : LC yPl_init cPl_init 5 none 4 := ⟨gw 446 (by decide +kernel) (by decide +kernel), gw 63 (by decide +kernel) (by decide +kernel), by decide +kernel, by decide +kernel⟩
theorem liX_283 : LI "TreeSteps" 283 yPl_init cPl_init 5 4 := ⟨Or.inl (gw 444 (by decide +kernel) (by decide +kernel)), rfl, gw 445 (by decide +kernel) (by decide +kernel), lcPl_init⟩
theorem noX_281 : NO "TreeSteps" 281 4 4 [.null, .null, .int 0, .int 0] := ⟨RPl, TPl, tyPl, rfl, inPl, tyPl_ok, gw 442 (by decide +kernel) (by decide +kernel), gw 443 (by decide +kernel) (by decide +kernel), gw 63 (by decide +kernel) (by decide +kernel), by decide +kernel, fun _ => rfl⟩
theorem lcTa_told : LC yTa_told cTa_told 1 (some .int) 0 := ⟨gw 517 (by decide +kernel) (by decide +kernel), gw 61 (by decide +kernel) (by decide +kernel), by decide +kernel, by decide +kernel⟩
theorem lcLo_told : LC yLo_told cLo_told 1 (some .int) 0 := ⟨gw 513 (by decide +kernel) (by decide +kernel), gw 62 (by decide +kernel) (by decide +kernel), by decide +kernel, by decide +kernel⟩
theorem lcPl_told : LC yPl_told cPl_told 1 (some .int) 0 := ⟨gw 516 (by decide +kernel) (by decide +kernel), gw 63 (by decide +kernel) (by decide +kernel), by decide +kernel, by decide +kernel⟩
theorem lcKe_told : LC yKe_told cKe_told 1 (some .int) 0 := ⟨gw 510 (by decide +kernel) (by decide +kernel), gw 64 (by decide +kernel) (by decide +kernel), by decide +kernel, by decide +kernel⟩
theorem lxX_195 : LX "TreeSteps" 195 yTa_told 0 := ⟨gw 504 (by decide +kernel) (by decide +kernel), gw 507 (by decide +kernel) (by decide +kernel), gw 505 (by decide +kernel) (by decide +kernel), ⟨cTa_told, 1, (some .int), gw 517 (by decide +kernel) (by decide +kernel)⟩, by decide +kernel, by decide +kernel⟩
theorem fgX_59 : ∀ t ∈ [11], FG "TreeSteps" 59 t 6 := by
  intro t ht
  rw [List.mem_singleton.mp ht]
  exact ⟨RX, TX, 9, rfl, by decide, inX, Or.inl (gw 252 (by decide +kernel) (by decide +kernel))⟩
theorem lcX_toldTable : LC yX_toldTable cX_toldTable 5 (some (.object "TreeSteps$Table")) 2 := ⟨gw 432 (by decide +kernel) (by decide +kernel), gw 50 (by decide +kernel) (by decide +kernel), by decide +kernel, by decide +kernel⟩
theorem lmX_270 : LM "TreeSteps" 270 11 yX_toldTable cX_toldTable 5 (some (.object "TreeSteps$Table")) 2 := ⟨RX, TX, 9, rfl, gw 429 (by decide +kernel) (by decide +kernel), gw 431 (by decide +kernel) (by decide +kernel), gw 13 (by decide +kernel) (by decide +kernel), lcX_toldTable⟩
theorem lcWe_weights : LC yWe_weights cWe_weights 7 (some (.array .int)) 1 := ⟨gw 407 (by decide +kernel) (by decide +kernel), gw 53 (by decide +kernel) (by decide +kernel), by decide +kernel, by decide +kernel⟩
theorem lmX_267 : LM "TreeSteps" 267 10 yWe_weights cWe_weights 7 (some (.array .int)) 1 := ⟨RWe, TWe, 4, rfl, gw 404 (by decide +kernel) (by decide +kernel), gw 405 (by decide +kernel) (by decide +kernel), gw 406 (by decide +kernel) (by decide +kernel), lcWe_weights⟩
theorem fgX_30 : ∀ t ∈ [11], FG "TreeSteps" 30 t 2 := by
  intro t ht
  rw [List.mem_singleton.mp ht]
  exact ⟨RX, TX, 9, rfl, by decide, inX, Or.inl (gw 248 (by decide +kernel) (by decide +kernel))⟩
theorem lcX_shelve : LC yX_shelve cX_shelve 4 (some .int) 2 := ⟨gw 403 (by decide +kernel) (by decide +kernel), gw 50 (by decide +kernel) (by decide +kernel), by decide +kernel, by decide +kernel⟩
theorem lmX_156 : LM "TreeSteps" 156 11 yX_shelve cX_shelve 4 (some .int) 2 := ⟨RX, TX, 9, rfl, gw 400 (by decide +kernel) (by decide +kernel), gw 402 (by decide +kernel) (by decide +kernel), gw 10 (by decide +kernel) (by decide +kernel), lcX_shelve⟩
theorem lcX_readFractions : LC yX_readFractions cX_readFractions 9 (some .boolean) 3 := ⟨gw 378 (by decide +kernel) (by decide +kernel), gw 50 (by decide +kernel) (by decide +kernel), by decide +kernel, by decide +kernel⟩
theorem lmX_152 : LM "TreeSteps" 152 11 yX_readFractions cX_readFractions 9 (some .boolean) 3 := ⟨RX, TX, 9, rfl, gw 375 (by decide +kernel) (by decide +kernel), gw 377 (by decide +kernel) (by decide +kernel), gw 9 (by decide +kernel) (by decide +kernel), lcX_readFractions⟩
theorem fgX_149 : ∀ t ∈ [7], FG "TreeSteps" 149 t 1 := by
  intro t ht
  rw [List.mem_singleton.mp ht]
  exact ⟨RSg, TSg, 2, rfl, by decide, inSg, Or.inr ⟨"TreeSteps", nw 369 (by decide +kernel) (by decide +kernel)⟩⟩
theorem lcSg_init : LC ySg_init cSg_init 2 none 1 := ⟨gw 358 (by decide +kernel) (by decide +kernel), gw 59 (by decide +kernel) (by decide +kernel), by decide +kernel, by decide +kernel⟩
theorem liX_148 : LI "TreeSteps" 148 ySg_init cSg_init 2 1 := ⟨Or.inl (gw 356 (by decide +kernel) (by decide +kernel)), rfl, gw 357 (by decide +kernel) (by decide +kernel), lcSg_init⟩
theorem noX_146 : NO "TreeSteps" 146 7 2 [.int 0, .null] := ⟨RSg, TSg, tySg, rfl, inSg, tySg_ok, gw 354 (by decide +kernel) (by decide +kernel), gw 355 (by decide +kernel) (by decide +kernel), gw 59 (by decide +kernel) (by decide +kernel), by decide +kernel, fun _ => rfl⟩
theorem lcX_noPlace : LC yX_noPlace cX_noPlace 1 (some .boolean) 1 := ⟨gw 353 (by decide +kernel) (by decide +kernel), gw 50 (by decide +kernel) (by decide +kernel), by decide +kernel, by decide +kernel⟩
theorem lsX_143 : LSt "TreeSteps" 143 yX_noPlace cX_noPlace 1 (some .boolean) 1 := ⟨gw 351 (by decide +kernel) (by decide +kernel), gw 352 (by decide +kernel) (by decide +kernel), lcX_noPlace⟩
theorem lcSg_putA : LC ySg_putA cSg_putA 5 none 3 := ⟨gw 530 (by decide +kernel) (by decide +kernel), gw 59 (by decide +kernel) (by decide +kernel), by decide +kernel, by decide +kernel⟩
theorem lmX_256 : LM "TreeSteps" 256 7 ySg_putA cSg_putA 5 none 3 := ⟨RSg, TSg, 2, rfl, gw 527 (by decide +kernel) (by decide +kernel), gw 528 (by decide +kernel) (by decide +kernel), gw 529 (by decide +kernel) (by decide +kernel), lcSg_putA⟩
theorem lcSg_putB : LC ySg_putB cSg_putB 4 none 2 := ⟨gw 534 (by decide +kernel) (by decide +kernel), gw 59 (by decide +kernel) (by decide +kernel), by decide +kernel, by decide +kernel⟩
theorem lmX_260 : LM "TreeSteps" 260 7 ySg_putB cSg_putB 4 none 2 := ⟨RSg, TSg, 2, rfl, gw 531 (by decide +kernel) (by decide +kernel), gw 532 (by decide +kernel) (by decide +kernel), gw 533 (by decide +kernel) (by decide +kernel), lcSg_putB⟩
theorem lcX_joined : LC yX_joined cX_joined 7 (some (.object "TreeSteps$Stages")) 2 := ⟨gw 526 (by decide +kernel) (by decide +kernel), gw 50 (by decide +kernel) (by decide +kernel), by decide +kernel, by decide +kernel⟩
theorem lmX_168 : LM "TreeSteps" 168 11 yX_joined cX_joined 7 (some (.object "TreeSteps$Stages")) 2 := ⟨RX, TX, 9, rfl, gw 523 (by decide +kernel) (by decide +kernel), gw 525 (by decide +kernel) (by decide +kernel), gw 16 (by decide +kernel) (by decide +kernel), lcX_joined⟩
theorem fgX_160 : ∀ t ∈ [8, 1, 2, 4], FG "TreeSteps" 160 t 0 := by
  intro t ht
  simp only [List.mem_cons, List.not_mem_nil, or_false] at ht
  rcases ht with rfl | rfl | rfl | rfl
  · exact ⟨RTa, TTa, 4, rfl, by decide, inTa, Or.inl (gw 455 (by decide +kernel) (by decide +kernel))⟩
  · exact ⟨RKe, TKe, 4, rfl, by decide, inKe, Or.inl (gw 455 (by decide +kernel) (by decide +kernel))⟩
  · exact ⟨RLo, TLo, 4, rfl, by decide, inLo, Or.inl (gw 455 (by decide +kernel) (by decide +kernel))⟩
  · exact ⟨RPl, TPl, 4, rfl, by decide, inPl, Or.inl (gw 455 (by decide +kernel) (by decide +kernel))⟩
theorem kiX_167 : Cond.constant "TreeSteps" 167 (-1000003:Int32) ∈ gtbl := gw 522 (by decide +kernel) (by decide +kernel)
theorem lcMo_less : LC yMo_less cMo_less 5 (some .long) 2 := ⟨gw 546 (by decide +kernel) (by decide +kernel), gw 51 (by decide +kernel) (by decide +kernel), by decide +kernel, by decide +kernel⟩
theorem lmX_264 : LM "TreeSteps" 264 3 yMo_less cMo_less 5 (some .long) 2 := ⟨RMo, TMo, 1, rfl, gw 543 (by decide +kernel) (by decide +kernel), gw 544 (by decide +kernel) (by decide +kernel), gw 545 (by decide +kernel) (by decide +kernel), lcMo_less⟩
theorem lcX_turned : LC yX_turned cX_turned 6 (some (.object "TreeSteps$Stages")) 1 := ⟨gw 550 (by decide +kernel) (by decide +kernel), gw 50 (by decide +kernel) (by decide +kernel), by decide +kernel, by decide +kernel⟩
theorem lmX_176 : LM "TreeSteps" 176 11 yX_turned cX_turned 6 (some (.object "TreeSteps$Stages")) 1 := ⟨RX, TX, 9, rfl, gw 547 (by decide +kernel) (by decide +kernel), gw 549 (by decide +kernel) (by decide +kernel), gw 18 (by decide +kernel) (by decide +kernel), lcX_turned⟩
theorem lcX_undone : LC yX_undone cX_undone 5 (some (.object "TreeSteps$Stages")) 1 := ⟨gw 542 (by decide +kernel) (by decide +kernel), gw 50 (by decide +kernel) (by decide +kernel), by decide +kernel, by decide +kernel⟩
theorem lmX_172 : LM "TreeSteps" 172 11 yX_undone cX_undone 5 (some (.object "TreeSteps$Stages")) 1 := ⟨RX, TX, 9, rfl, gw 539 (by decide +kernel) (by decide +kernel), gw 541 (by decide +kernel) (by decide +kernel), gw 17 (by decide +kernel) (by decide +kernel), lcX_undone⟩
theorem lcX_scaled : LC yX_scaled cX_scaled 5 (some (.object "TreeSteps$Stages")) 2 := ⟨gw 558 (by decide +kernel) (by decide +kernel), gw 50 (by decide +kernel) (by decide +kernel), by decide +kernel, by decide +kernel⟩
theorem lmX_183 : LM "TreeSteps" 183 11 yX_scaled cX_scaled 5 (some (.object "TreeSteps$Stages")) 2 := ⟨RX, TX, 9, rfl, gw 555 (by decide +kernel) (by decide +kernel), gw 557 (by decide +kernel) (by decide +kernel), gw 19 (by decide +kernel) (by decide +kernel), lcX_scaled⟩
theorem fgX_179 : ∀ t ∈ [3], FG "TreeSteps" 179 t 0 := by
  intro t ht
  rw [List.mem_singleton.mp ht]
  exact ⟨RMo, TMo, 1, rfl, by decide, inMo, Or.inr ⟨"TreeSteps", nw 85 (by decide +kernel) (by decide +kernel)⟩⟩
theorem clX_293 : Cond.classLink "TreeSteps" 293 "TreeSteps$Lower" ∈ gtbl := gw 489 (by decide +kernel) (by decide +kernel)
theorem clX_281 : Cond.classLink "TreeSteps" 281 "TreeSteps$Plain" ∈ gtbl := gw 442 (by decide +kernel) (by decide +kernel)
theorem clX_290 : Cond.classLink "TreeSteps" 290 "TreeSteps$Keeping" ∈ gtbl := gw 478 (by decide +kernel) (by decide +kernel)
theorem lcX_belongs : LC yX_belongs cX_belongs 2 (some .boolean) 2 := ⟨gw 580 (by decide +kernel) (by decide +kernel), gw 50 (by decide +kernel) (by decide +kernel), by decide +kernel, by decide +kernel⟩
theorem lsX_202 : LSt "TreeSteps" 202 yX_belongs cX_belongs 2 (some .boolean) 2 := ⟨gw 578 (by decide +kernel) (by decide +kernel), gw 579 (by decide +kernel) (by decide +kernel), lcX_belongs⟩
theorem lcX_noKind : LC yX_noKind cX_noKind 1 (some .boolean) 1 := ⟨gw 577 (by decide +kernel) (by decide +kernel), gw 50 (by decide +kernel) (by decide +kernel), by decide +kernel, by decide +kernel⟩
theorem lsX_199 : LSt "TreeSteps" 199 yX_noKind cX_noKind 1 (some .boolean) 1 := ⟨gw 575 (by decide +kernel) (by decide +kernel), gw 576 (by decide +kernel) (by decide +kernel), lcX_noKind⟩
theorem fgTr_13 : ∀ t ∈ [9], FG "TreeSteps$Trace" 13 t 1 := by
  intro t ht
  rw [List.mem_singleton.mp ht]
  exact ⟨RTr, TTr, 2, rfl, by decide, inTr, Or.inl (gw 217 (by decide +kernel) (by decide +kernel))⟩
theorem fgTr_9 : ∀ t ∈ [9], FG "TreeSteps$Trace" 9 t 0 := by
  intro t ht
  rw [List.mem_singleton.mp ht]
  exact ⟨RTr, TTr, 2, rfl, by decide, inTr, Or.inl (gw 215 (by decide +kernel) (by decide +kernel))⟩
theorem fgTa_32 : ∀ t ∈ [7], FG "TreeSteps$Table" 32 t 0 := by
  intro t ht
  rw [List.mem_singleton.mp ht]
  exact ⟨RSg, TSg, 2, rfl, by decide, inSg, Or.inr ⟨"TreeSteps", nw 366 (by decide +kernel) (by decide +kernel)⟩⟩
theorem fgTa_9 : ∀ t ∈ [8, 1, 2, 4], FG "TreeSteps$Table" 9 t 0 := by
  intro t ht
  simp only [List.mem_cons, List.not_mem_nil, or_false] at ht
  rcases ht with rfl | rfl | rfl | rfl
  · exact ⟨RTa, TTa, 4, rfl, by decide, inTa, Or.inl (gw 454 (by decide +kernel) (by decide +kernel))⟩
  · exact ⟨RKe, TKe, 4, rfl, by decide, inKe, Or.inl (gw 454 (by decide +kernel) (by decide +kernel))⟩
  · exact ⟨RLo, TLo, 4, rfl, by decide, inLo, Or.inl (gw 454 (by decide +kernel) (by decide +kernel))⟩
  · exact ⟨RPl, TPl, 4, rfl, by decide, inPl, Or.inl (gw 454 (by decide +kernel) (by decide +kernel))⟩
theorem lcTr_begin : LC yTr_begin cTr_begin 2 none 1 := ⟨gw 599 (by decide +kernel) (by decide +kernel), gw 55 (by decide +kernel) (by decide +kernel), by decide +kernel, by decide +kernel⟩
theorem lmTa_26 : LM "TreeSteps$Table" 26 9 yTr_begin cTr_begin 2 none 1 := ⟨RTr, TTr, 2, rfl, gw 608 (by decide +kernel) (by decide +kernel), gw 597 (by decide +kernel) (by decide +kernel), gw 598 (by decide +kernel) (by decide +kernel), lcTr_begin⟩
theorem lcTa_size : LC yTa_size cTa_size 2 (some .int) 1 := ⟨gw 619 (by decide +kernel) (by decide +kernel), gw 61 (by decide +kernel) (by decide +kernel), by decide +kernel, by decide +kernel⟩
theorem luLo_15 : LU "TreeSteps$Lower" 15 yTa_size cTa_size 2 (some .int) 1 := ⟨gw 613 (by decide +kernel) (by decide +kernel), gw 592 (by decide +kernel) (by decide +kernel), gw 496 (by decide +kernel) (by decide +kernel), gw 590 (by decide +kernel) (by decide +kernel), by decide +kernel, lcTa_size⟩
theorem lmLo_9 : LM "TreeSteps$Lower" 9 9 yTr_begin cTr_begin 2 none 1 := ⟨RTr, TTr, 2, rfl, gw 612 (by decide +kernel) (by decide +kernel), gw 597 (by decide +kernel) (by decide +kernel), gw 598 (by decide +kernel) (by decide +kernel), lcTr_begin⟩
theorem lcLo_size : LC yLo_size cLo_size 2 (some .int) 1 := ⟨gw 611 (by decide +kernel) (by decide +kernel), gw 62 (by decide +kernel) (by decide +kernel), by decide +kernel, by decide +kernel⟩
theorem luPl_15 : LU "TreeSteps$Plain" 15 yLo_size cLo_size 2 (some .int) 1 := ⟨gw 618 (by decide +kernel) (by decide +kernel), gw 995 (by decide +kernel) (by decide +kernel), gw 470 (by decide +kernel) (by decide +kernel), gw 610 (by decide +kernel) (by decide +kernel), by decide +kernel, lcLo_size⟩
theorem lmPl_9 : LM "TreeSteps$Plain" 9 9 yTr_begin cTr_begin 2 none 1 := ⟨RTr, TTr, 2, rfl, gw 617 (by decide +kernel) (by decide +kernel), gw 597 (by decide +kernel) (by decide +kernel), gw 598 (by decide +kernel) (by decide +kernel), lcTr_begin⟩
theorem fgTa_23 : ∀ t ∈ [8, 1, 2, 4], FG "TreeSteps$Table" 23 t 3 := by
  intro t ht
  simp only [List.mem_cons, List.not_mem_nil, or_false] at ht
  rcases ht with rfl | rfl | rfl | rfl
  · exact ⟨RTa, TTa, 4, rfl, by decide, inTa, Or.inl (gw 460 (by decide +kernel) (by decide +kernel))⟩
  · exact ⟨RKe, TKe, 4, rfl, by decide, inKe, Or.inl (gw 460 (by decide +kernel) (by decide +kernel))⟩
  · exact ⟨RLo, TLo, 4, rfl, by decide, inLo, Or.inl (gw 460 (by decide +kernel) (by decide +kernel))⟩
  · exact ⟨RPl, TPl, 4, rfl, by decide, inPl, Or.inl (gw 460 (by decide +kernel) (by decide +kernel))⟩
theorem lcTa_mark : LC yTa_mark cTa_mark 2 (some .int) 1 := ⟨gw 607 (by decide +kernel) (by decide +kernel), gw 61 (by decide +kernel) (by decide +kernel), by decide +kernel, by decide +kernel⟩
theorem luKe_24 : LU "TreeSteps$Keeping" 24 yTa_mark cTa_mark 2 (some .int) 1 := ⟨gw 605 (by decide +kernel) (by decide +kernel), gw 994 (by decide +kernel) (by decide +kernel), gw 488 (by decide +kernel) (by decide +kernel), gw 606 (by decide +kernel) (by decide +kernel), by decide +kernel, lcTa_mark⟩
theorem lmKe_9 : LM "TreeSteps$Keeping" 9 9 yTr_begin cTr_begin 2 none 1 := ⟨RTr, TTr, 2, rfl, gw 596 (by decide +kernel) (by decide +kernel), gw 597 (by decide +kernel) (by decide +kernel), gw 598 (by decide +kernel) (by decide +kernel), lcTr_begin⟩
theorem lcKe_mark : LC yKe_mark cKe_mark 2 (some .int) 1 := ⟨gw 604 (by decide +kernel) (by decide +kernel), gw 64 (by decide +kernel) (by decide +kernel), by decide +kernel, by decide +kernel⟩
theorem lmKe_19 : LM "TreeSteps$Keeping" 19 1 yKe_mark cKe_mark 2 (some .int) 1 := ⟨RKe, TKe, 4, rfl, gw 601 (by decide +kernel) (by decide +kernel), gw 602 (by decide +kernel) (by decide +kernel), gw 603 (by decide +kernel) (by decide +kernel), lcKe_mark⟩
theorem luKe_15 : LU "TreeSteps$Keeping" 15 yTa_size cTa_size 2 (some .int) 1 := ⟨gw 600 (by decide +kernel) (by decide +kernel), gw 592 (by decide +kernel) (by decide +kernel), gw 488 (by decide +kernel) (by decide +kernel), gw 590 (by decide +kernel) (by decide +kernel), by decide +kernel, lcTa_size⟩
theorem lcPl_size : LC yPl_size cPl_size 2 (some .int) 1 := ⟨gw 616 (by decide +kernel) (by decide +kernel), gw 63 (by decide +kernel) (by decide +kernel), by decide +kernel, by decide +kernel⟩
theorem lcKe_size : LC yKe_size cKe_size 2 (some .int) 1 := ⟨gw 595 (by decide +kernel) (by decide +kernel), gw 64 (by decide +kernel) (by decide +kernel), by decide +kernel, by decide +kernel⟩
theorem lxLo_22 : LX "TreeSteps$Lower" 22 yLo_size 1 := ⟨gw 624 (by decide +kernel) (by decide +kernel), gw 995 (by decide +kernel) (by decide +kernel), gw 610 (by decide +kernel) (by decide +kernel), ⟨cLo_size, 2, (some .int), gw 611 (by decide +kernel) (by decide +kernel)⟩, by decide +kernel, by decide +kernel⟩
theorem luLo_19 : LU "TreeSteps$Lower" 19 yTa_mark cTa_mark 2 (some .int) 1 := ⟨gw 623 (by decide +kernel) (by decide +kernel), gw 994 (by decide +kernel) (by decide +kernel), gw 496 (by decide +kernel) (by decide +kernel), gw 606 (by decide +kernel) (by decide +kernel), by decide +kernel, lcTa_mark⟩
theorem lcLo_mark : LC yLo_mark cLo_mark 2 (some .int) 1 := ⟨gw 622 (by decide +kernel) (by decide +kernel), gw 62 (by decide +kernel) (by decide +kernel), by decide +kernel, by decide +kernel⟩
theorem lxX_211 : LX "TreeSteps" 211 yTa_mark 1 := ⟨gw 620 (by decide +kernel) (by decide +kernel), gw 994 (by decide +kernel) (by decide +kernel), gw 606 (by decide +kernel) (by decide +kernel), ⟨cTa_mark, 2, (some .int), gw 607 (by decide +kernel) (by decide +kernel)⟩, by decide +kernel, by decide +kernel⟩
theorem fgX_46 : ∀ t ∈ [11], FG "TreeSteps" 46 t 4 := by
  intro t ht
  rw [List.mem_singleton.mp ht]
  exact ⟨RX, TX, 9, rfl, by decide, inX, Or.inl (gw 250 (by decide +kernel) (by decide +kernel))⟩
theorem lxX_207 : LX "TreeSteps" 207 yTa_size 1 := ⟨gw 589 (by decide +kernel) (by decide +kernel), gw 592 (by decide +kernel) (by decide +kernel), gw 590 (by decide +kernel) (by decide +kernel), ⟨cTa_size, 2, (some .int), gw 619 (by decide +kernel) (by decide +kernel)⟩, by decide +kernel, by decide +kernel⟩
theorem fpX_206 : ∀ t ∈ [9], FP "TreeSteps" 206 t 1 (.int) := by
  intro t ht
  rw [List.mem_singleton.mp ht]
  exact ⟨RTr, TTr, 2, tyTr, rfl, by decide, inTr, tyTr_ok, nmTr, rfl, rfl, Or.inr ⟨"TreeSteps", nw 218 (by decide +kernel) (by decide +kernel)⟩⟩
theorem fgX_214 : ∀ t ∈ [9], FG "TreeSteps" 214 t 0 := by
  intro t ht
  rw [List.mem_singleton.mp ht]
  exact ⟨RTr, TTr, 2, rfl, by decide, inTr, Or.inr ⟨"TreeSteps", nw 216 (by decide +kernel) (by decide +kernel)⟩⟩
theorem fgX_206 : ∀ t ∈ [9], FG "TreeSteps" 206 t 1 := by
  intro t ht
  rw [List.mem_singleton.mp ht]
  exact ⟨RTr, TTr, 2, rfl, by decide, inTr, Or.inr ⟨"TreeSteps", nw 218 (by decide +kernel) (by decide +kernel)⟩⟩
theorem fgX_217 : ∀ t ∈ [8, 1, 2, 4], FG "TreeSteps" 217 t 1 := by
  intro t ht
  simp only [List.mem_cons, List.not_mem_nil, or_false] at ht
  rcases ht with rfl | rfl | rfl | rfl
  · exact ⟨RTa, TTa, 4, rfl, by decide, inTa, Or.inl (gw 457 (by decide +kernel) (by decide +kernel))⟩
  · exact ⟨RKe, TKe, 4, rfl, by decide, inKe, Or.inl (gw 457 (by decide +kernel) (by decide +kernel))⟩
  · exact ⟨RLo, TLo, 4, rfl, by decide, inLo, Or.inl (gw 457 (by decide +kernel) (by decide +kernel))⟩
  · exact ⟨RPl, TPl, 4, rfl, by decide, inPl, Or.inl (gw 457 (by decide +kernel) (by decide +kernel))⟩
theorem fgX_223 : ∀ t ∈ [8, 1, 2, 4], FG "TreeSteps" 223 t 2 := by
  intro t ht
  simp only [List.mem_cons, List.not_mem_nil, or_false] at ht
  rcases ht with rfl | rfl | rfl | rfl
  · exact ⟨RTa, TTa, 4, rfl, by decide, inTa, Or.inl (gw 459 (by decide +kernel) (by decide +kernel))⟩
  · exact ⟨RKe, TKe, 4, rfl, by decide, inKe, Or.inl (gw 459 (by decide +kernel) (by decide +kernel))⟩
  · exact ⟨RLo, TLo, 4, rfl, by decide, inLo, Or.inl (gw 459 (by decide +kernel) (by decide +kernel))⟩
  · exact ⟨RPl, TPl, 4, rfl, by decide, inPl, Or.inl (gw 459 (by decide +kernel) (by decide +kernel))⟩
theorem fgX_220 : ∀ t ∈ [8, 1, 2, 4], FG "TreeSteps" 220 t 3 := by
  intro t ht
  simp only [List.mem_cons, List.not_mem_nil, or_false] at ht
  rcases ht with rfl | rfl | rfl | rfl
  · exact ⟨RTa, TTa, 4, rfl, by decide, inTa, Or.inl (gw 461 (by decide +kernel) (by decide +kernel))⟩
  · exact ⟨RKe, TKe, 4, rfl, by decide, inKe, Or.inl (gw 461 (by decide +kernel) (by decide +kernel))⟩
  · exact ⟨RLo, TLo, 4, rfl, by decide, inLo, Or.inl (gw 461 (by decide +kernel) (by decide +kernel))⟩
  · exact ⟨RPl, TPl, 4, rfl, by decide, inPl, Or.inl (gw 461 (by decide +kernel) (by decide +kernel))⟩
theorem fgSh_9 : ∀ t ∈ [5], FG "TreeSteps$Shares" 9 t 1 := by
  intro t ht
  rw [List.mem_singleton.mp ht]
  exact ⟨RSh, TSh, 3, rfl, by decide, inSh, Or.inl (gw 200 (by decide +kernel) (by decide +kernel))⟩
theorem lmSh_59 : LM "TreeSteps$Shares" 59 3 yMo_plus cMo_plus 5 (some .long) 2 := ⟨RMo, TMo, 1, rfl, gw 653 (by decide +kernel) (by decide +kernel), gw 418 (by decide +kernel) (by decide +kernel), gw 419 (by decide +kernel) (by decide +kernel), lcMo_plus⟩
theorem fgSh_18 : ∀ t ∈ [5], FG "TreeSteps$Shares" 18 t 0 := by
  intro t ht
  rw [List.mem_singleton.mp ht]
  exact ⟨RSh, TSh, 3, rfl, by decide, inSh, Or.inl (gw 199 (by decide +kernel) (by decide +kernel))⟩
theorem fgSh_22 : ∀ t ∈ [7], FG "TreeSteps$Shares" 22 t 0 := by
  intro t ht
  rw [List.mem_singleton.mp ht]
  exact ⟨RSg, TSg, 2, rfl, by decide, inSg, Or.inr ⟨"TreeSteps", nw 364 (by decide +kernel) (by decide +kernel)⟩⟩
theorem fgSh_15 : ∀ t ∈ [5], FG "TreeSteps$Shares" 15 t 2 := by
  intro t ht
  rw [List.mem_singleton.mp ht]
  exact ⟨RSh, TSh, 3, rfl, by decide, inSh, Or.inl (gw 201 (by decide +kernel) (by decide +kernel))⟩
theorem lmSh_53 : LM "TreeSteps$Shares" 53 3 yMo_times cMo_times 5 (some .long) 2 := ⟨RMo, TMo, 1, rfl, gw 659 (by decide +kernel) (by decide +kernel), gw 396 (by decide +kernel) (by decide +kernel), gw 397 (by decide +kernel) (by decide +kernel), lcMo_times⟩
theorem lmSh_62 : LM "TreeSteps$Shares" 62 7 ySg_a cSg_a 3 (some .long) 2 := ⟨RSg, TSg, 2, rfl, gw 658 (by decide +kernel) (by decide +kernel), gw 426 (by decide +kernel) (by decide +kernel), gw 427 (by decide +kernel) (by decide +kernel), lcSg_a⟩
theorem mlSh_66 : (Cond.methodLink "TreeSteps$Shares" (66 : Nat) ({ cls := "java/lang/System", name := "arraycopy", desc := "(Ljava/lang/Object;ILjava/lang/Object;II)V" } : MethodName)) ∈ gtbl := gw 670 (by decide +kernel) (by decide +kernel)
theorem lcSh_clearFactor : LC ySh_clearFactor cSh_clearFactor 2 none 0 := ⟨gw 648 (by decide +kernel) (by decide +kernel), gw 54 (by decide +kernel) (by decide +kernel), by decide +kernel, by decide +kernel⟩
theorem lmSh_28 : LM "TreeSteps$Shares" 28 5 ySh_clearFactor cSh_clearFactor 2 none 0 := ⟨RSh, TSh, 3, rfl, gw 645 (by decide +kernel) (by decide +kernel), gw 647 (by decide +kernel) (by decide +kernel), gw 20 (by decide +kernel) (by decide +kernel), lcSh_clearFactor⟩
theorem lcSh_keepProduct : LC ySh_keepProduct cSh_keepProduct 1 none 0 := ⟨gw 669 (by decide +kernel) (by decide +kernel), gw 54 (by decide +kernel) (by decide +kernel), by decide +kernel, by decide +kernel⟩
theorem lmSh_56 : LM "TreeSteps$Shares" 56 5 ySh_keepProduct cSh_keepProduct 1 none 0 := ⟨RSh, TSh, 3, rfl, gw 666 (by decide +kernel) (by decide +kernel), gw 668 (by decide +kernel) (by decide +kernel), gw 24 (by decide +kernel) (by decide +kernel), lcSh_keepProduct⟩
theorem lmSh_49 : LM "TreeSteps$Shares" 49 3 yMo_inverse cMo_inverse 3 (some .long) 1 := ⟨RMo, TMo, 1, rfl, gw 665 (by decide +kernel) (by decide +kernel), gw 387 (by decide +kernel) (by decide +kernel), gw 388 (by decide +kernel) (by decide +kernel), lcMo_inverse⟩
theorem lmSh_43 : LM "TreeSteps$Shares" 43 3 yMo_less cMo_less 5 (some .long) 2 := ⟨RMo, TMo, 1, rfl, gw 664 (by decide +kernel) (by decide +kernel), gw 544 (by decide +kernel) (by decide +kernel), gw 545 (by decide +kernel) (by decide +kernel), lcMo_less⟩
theorem lcSh_diagonalSum : LC ySh_diagonalSum cSh_diagonalSum 5 (some .long) 1 := ⟨gw 663 (by decide +kernel) (by decide +kernel), gw 54 (by decide +kernel) (by decide +kernel), by decide +kernel, by decide +kernel⟩
theorem lmSh_39 : LM "TreeSteps$Shares" 39 5 ySh_diagonalSum cSh_diagonalSum 5 (some .long) 1 := ⟨RSh, TSh, 3, rfl, gw 660 (by decide +kernel) (by decide +kernel), gw 662 (by decide +kernel) (by decide +kernel), gw 23 (by decide +kernel) (by decide +kernel), lcSh_diagonalSum⟩
theorem lcSh_multiply : LC ySh_multiply cSh_multiply 7 none 1 := ⟨gw 657 (by decide +kernel) (by decide +kernel), gw 54 (by decide +kernel) (by decide +kernel), by decide +kernel, by decide +kernel⟩
theorem lmSh_35 : LM "TreeSteps$Shares" 35 5 ySh_multiply cSh_multiply 7 none 1 := ⟨RSh, TSh, 3, rfl, gw 654 (by decide +kernel) (by decide +kernel), gw 656 (by decide +kernel) (by decide +kernel), gw 22 (by decide +kernel) (by decide +kernel), lcSh_multiply⟩
theorem lcSh_addToDiagonal : LC ySh_addToDiagonal cSh_addToDiagonal 6 none 2 := ⟨gw 652 (by decide +kernel) (by decide +kernel), gw 54 (by decide +kernel) (by decide +kernel), by decide +kernel, by decide +kernel⟩
theorem lmSh_31 : LM "TreeSteps$Shares" 31 5 ySh_addToDiagonal cSh_addToDiagonal 6 none 2 := ⟨RSh, TSh, 3, rfl, gw 649 (by decide +kernel) (by decide +kernel), gw 651 (by decide +kernel) (by decide +kernel), gw 21 (by decide +kernel) (by decide +kernel), lcSh_addToDiagonal⟩
theorem fgX_39 : ∀ t ∈ [11], FG "TreeSteps" 39 t 3 := by
  intro t ht
  rw [List.mem_singleton.mp ht]
  exact ⟨RX, TX, 9, rfl, by decide, inX, Or.inl (gw 249 (by decide +kernel) (by decide +kernel))⟩
theorem lcSh_coefficient : LC ySh_coefficient cSh_coefficient 6 (some .int) 2 := ⟨gw 644 (by decide +kernel) (by decide +kernel), gw 54 (by decide +kernel) (by decide +kernel), by decide +kernel, by decide +kernel⟩
theorem lmX_226 : LM "TreeSteps" 226 5 ySh_coefficient cSh_coefficient 6 (some .int) 2 := ⟨RSh, TSh, 3, rfl, gw 641 (by decide +kernel) (by decide +kernel), gw 642 (by decide +kernel) (by decide +kernel), gw 643 (by decide +kernel) (by decide +kernel), lcSh_coefficient⟩
theorem lcX_rowSum : LC yX_rowSum cX_rowSum 6 (some .long) 2 := ⟨gw 682 (by decide +kernel) (by decide +kernel), gw 50 (by decide +kernel) (by decide +kernel), by decide +kernel, by decide +kernel⟩
theorem lmX_300 : LM "TreeSteps" 300 11 yX_rowSum cX_rowSum 6 (some .long) 2 := ⟨RX, TX, 9, rfl, gw 679 (by decide +kernel) (by decide +kernel), gw 681 (by decide +kernel) (by decide +kernel), gw 26 (by decide +kernel) (by decide +kernel), lcX_rowSum⟩
theorem fgX_63 : ∀ t ∈ [11], FG "TreeSteps" 63 t 7 := by
  intro t ht
  rw [List.mem_singleton.mp ht]
  exact ⟨RX, TX, 9, rfl, by decide, inX, Or.inl (gw 253 (by decide +kernel) (by decide +kernel))⟩
theorem lmX_304 : LM "TreeSteps" 304 3 yMo_power cMo_power 10 (some .long) 2 := ⟨RMo, TMo, 1, rfl, gw 683 (by decide +kernel) (by decide +kernel), gw 392 (by decide +kernel) (by decide +kernel), gw 393 (by decide +kernel) (by decide +kernel), lcMo_power⟩
theorem lcX_ridden : LC yX_ridden cX_ridden 15 (some .long) 4 := ⟨gw 678 (by decide +kernel) (by decide +kernel), gw 50 (by decide +kernel) (by decide +kernel), by decide +kernel, by decide +kernel⟩
theorem lmX_230 : LM "TreeSteps" 230 11 yX_ridden cX_ridden 15 (some .long) 4 := ⟨RX, TX, 9, rfl, gw 675 (by decide +kernel) (by decide +kernel), gw 677 (by decide +kernel) (by decide +kernel), gw 25 (by decide +kernel) (by decide +kernel), lcX_ridden⟩
theorem lcX_sameWeights : LC yX_sameWeights cX_sameWeights 5 (some .boolean) 3 := ⟨gw 691 (by decide +kernel) (by decide +kernel), gw 50 (by decide +kernel) (by decide +kernel), by decide +kernel, by decide +kernel⟩
theorem lmX_234 : LM "TreeSteps" 234 11 yX_sameWeights cX_sameWeights 5 (some .boolean) 3 := ⟨RX, TX, 9, rfl, gw 688 (by decide +kernel) (by decide +kernel), gw 690 (by decide +kernel) (by decide +kernel), gw 27 (by decide +kernel) (by decide +kernel), lcX_sameWeights⟩
theorem lcX_sheetsThere : LC yX_sheetsThere cX_sheetsThere 3 (some .int) 0 := ⟨gw 699 (by decide +kernel) (by decide +kernel), gw 50 (by decide +kernel) (by decide +kernel), by decide +kernel, by decide +kernel⟩
theorem lmX_238 : LM "TreeSteps" 238 11 yX_sheetsThere cX_sheetsThere 3 (some .int) 0 := ⟨RX, TX, 9, rfl, gw 696 (by decide +kernel) (by decide +kernel), gw 698 (by decide +kernel) (by decide +kernel), gw 28 (by decide +kernel) (by decide +kernel), lcX_sheetsThere⟩
theorem lcX_tablesOf : LC yX_tablesOf cX_tablesOf 4 (some .int) 1 := ⟨gw 703 (by decide +kernel) (by decide +kernel), gw 50 (by decide +kernel) (by decide +kernel), by decide +kernel, by decide +kernel⟩
theorem lmX_241 : LM "TreeSteps" 241 11 yX_tablesOf cX_tablesOf 4 (some .int) 1 := ⟨RX, TX, 9, rfl, gw 700 (by decide +kernel) (by decide +kernel), gw 702 (by decide +kernel) (by decide +kernel), gw 29 (by decide +kernel) (by decide +kernel), lcX_tablesOf⟩
theorem fgX_93 : ∀ t ∈ [11], FG "TreeSteps" 93 t 8 := by
  intro t ht
  rw [List.mem_singleton.mp ht]
  exact ⟨RX, TX, 9, rfl, by decide, inX, Or.inl (gw 254 (by decide +kernel) (by decide +kernel))⟩
theorem kiM_10 : Cond.constant "TreeStepsModel" 10 (-1000010:Int32) ∈ gtbl := gw 844 (by decide +kernel) (by decide +kernel)
theorem fpM_7 : ∀ t ∈ [12], FP "TreeStepsModel" 7 t 1 (.int) := by
  intro t ht
  rw [List.mem_singleton.mp ht]
  exact ⟨RM, TM, 20, tyM, rfl, by decide, inM, tyM_ok, nmM, rfl, rfl, Or.inl (gw 731 (by decide +kernel) (by decide +kernel))⟩
theorem fgM_17 : ∀ t ∈ [12], FG "TreeStepsModel" 17 t 3 := by
  intro t ht
  rw [List.mem_singleton.mp ht]
  exact ⟨RM, TM, 20, rfl, by decide, inM, Or.inl (gw 733 (by decide +kernel) (by decide +kernel))⟩
theorem fgM_21 : ∀ t ∈ [12], FG "TreeStepsModel" 21 t 4 := by
  intro t ht
  rw [List.mem_singleton.mp ht]
  exact ⟨RM, TM, 20, rfl, by decide, inM, Or.inl (gw 734 (by decide +kernel) (by decide +kernel))⟩
theorem mlM_11 : (Cond.methodLink "TreeStepsModel" (11 : Nat) ({ cls := "java/lang/Object", name := "<init>", desc := "()V" } : MethodName)) ∈ gtbl := gw 716 (by decide +kernel) (by decide +kernel)
theorem ffM_64 : ∀ t ∈ [12], FF "TreeStepsModel" 64 t 19 (.array (.long)) := by
  intro t ht
  rw [List.mem_singleton.mp ht]
  exact ⟨RM, TM, 20, tyM, rfl, by decide, inM, tyM_ok, nmM, rfl, rfl, rfl, (gw 749 (by decide +kernel) (by decide +kernel))⟩
theorem ffM_61 : ∀ t ∈ [12], FF "TreeStepsModel" 61 t 18 (.array (.long)) := by
  intro t ht
  rw [List.mem_singleton.mp ht]
  exact ⟨RM, TM, 20, tyM, rfl, by decide, inM, tyM_ok, nmM, rfl, rfl, rfl, (gw 748 (by decide +kernel) (by decide +kernel))⟩
theorem ffM_58 : ∀ t ∈ [12], FF "TreeStepsModel" 58 t 17 (.array (.long)) := by
  intro t ht
  rw [List.mem_singleton.mp ht]
  exact ⟨RM, TM, 20, tyM, rfl, by decide, inM, tyM_ok, nmM, rfl, rfl, rfl, (gw 747 (by decide +kernel) (by decide +kernel))⟩
theorem ffM_55 : ∀ t ∈ [12], FF "TreeStepsModel" 55 t 16 (.array (.long)) := by
  intro t ht
  rw [List.mem_singleton.mp ht]
  exact ⟨RM, TM, 20, tyM, rfl, by decide, inM, tyM_ok, nmM, rfl, rfl, rfl, (gw 746 (by decide +kernel) (by decide +kernel))⟩
theorem ffM_52 : ∀ t ∈ [12], FF "TreeStepsModel" 52 t 15 (.array (.long)) := by
  intro t ht
  rw [List.mem_singleton.mp ht]
  exact ⟨RM, TM, 20, tyM, rfl, by decide, inM, tyM_ok, nmM, rfl, rfl, rfl, (gw 745 (by decide +kernel) (by decide +kernel))⟩
theorem ffM_49 : ∀ t ∈ [12], FF "TreeStepsModel" 49 t 14 (.array (.long)) := by
  intro t ht
  rw [List.mem_singleton.mp ht]
  exact ⟨RM, TM, 20, tyM, rfl, by decide, inM, tyM_ok, nmM, rfl, rfl, rfl, (gw 744 (by decide +kernel) (by decide +kernel))⟩
theorem ffM_46 : ∀ t ∈ [12], FF "TreeStepsModel" 46 t 12 (.array (.int)) := by
  intro t ht
  rw [List.mem_singleton.mp ht]
  exact ⟨RM, TM, 20, tyM, rfl, by decide, inM, tyM_ok, nmM, rfl, rfl, rfl, (gw 742 (by decide +kernel) (by decide +kernel))⟩
theorem ffM_43 : ∀ t ∈ [12], FF "TreeStepsModel" 43 t 11 (.array (.long)) := by
  intro t ht
  rw [List.mem_singleton.mp ht]
  exact ⟨RM, TM, 20, tyM, rfl, by decide, inM, tyM_ok, nmM, rfl, rfl, rfl, (gw 741 (by decide +kernel) (by decide +kernel))⟩
theorem ffM_40 : ∀ t ∈ [12], FF "TreeStepsModel" 40 t 10 (.array (.long)) := by
  intro t ht
  rw [List.mem_singleton.mp ht]
  exact ⟨RM, TM, 20, tyM, rfl, by decide, inM, tyM_ok, nmM, rfl, rfl, rfl, (gw 740 (by decide +kernel) (by decide +kernel))⟩
theorem ffM_37 : ∀ t ∈ [12], FF "TreeStepsModel" 37 t 9 (.array (.int)) := by
  intro t ht
  rw [List.mem_singleton.mp ht]
  exact ⟨RM, TM, 20, tyM, rfl, by decide, inM, tyM_ok, nmM, rfl, rfl, rfl, (gw 739 (by decide +kernel) (by decide +kernel))⟩
theorem ffM_33 : ∀ t ∈ [12], FF "TreeStepsModel" 33 t 8 (.array (.long)) := by
  intro t ht
  rw [List.mem_singleton.mp ht]
  exact ⟨RM, TM, 20, tyM, rfl, by decide, inM, tyM_ok, nmM, rfl, rfl, rfl, (gw 738 (by decide +kernel) (by decide +kernel))⟩
theorem ffM_30 : ∀ t ∈ [12], FF "TreeStepsModel" 30 t 7 (.array (.int)) := by
  intro t ht
  rw [List.mem_singleton.mp ht]
  exact ⟨RM, TM, 20, tyM, rfl, by decide, inM, tyM_ok, nmM, rfl, rfl, rfl, (gw 737 (by decide +kernel) (by decide +kernel))⟩
theorem ffM_27 : ∀ t ∈ [12], FF "TreeStepsModel" 27 t 6 (.array (.int)) := by
  intro t ht
  rw [List.mem_singleton.mp ht]
  exact ⟨RM, TM, 20, tyM, rfl, by decide, inM, tyM_ok, nmM, rfl, rfl, rfl, (gw 736 (by decide +kernel) (by decide +kernel))⟩
theorem ffM_24 : ∀ t ∈ [12], FF "TreeStepsModel" 24 t 5 (.array (.int)) := by
  intro t ht
  rw [List.mem_singleton.mp ht]
  exact ⟨RM, TM, 20, tyM, rfl, by decide, inM, tyM_ok, nmM, rfl, rfl, rfl, (gw 735 (by decide +kernel) (by decide +kernel))⟩
theorem ffM_21 : ∀ t ∈ [12], FF "TreeStepsModel" 21 t 4 (.array (.int)) := by
  intro t ht
  rw [List.mem_singleton.mp ht]
  exact ⟨RM, TM, 20, tyM, rfl, by decide, inM, tyM_ok, nmM, rfl, rfl, rfl, (gw 734 (by decide +kernel) (by decide +kernel))⟩
theorem ffM_17 : ∀ t ∈ [12], FF "TreeStepsModel" 17 t 3 (.array (.int)) := by
  intro t ht
  rw [List.mem_singleton.mp ht]
  exact ⟨RM, TM, 20, tyM, rfl, by decide, inM, tyM_ok, nmM, rfl, rfl, rfl, (gw 733 (by decide +kernel) (by decide +kernel))⟩
theorem klM_67 : Cond.constantLong "TreeStepsModel" 67 (101:Int64) ∈ gtbl := gw 717 (by decide +kernel) (by decide +kernel)
theorem klM_69 : Cond.constantLong "TreeStepsModel" 69 (2000000000:Int64) ∈ gtbl := gw 718 (by decide +kernel) (by decide +kernel)
theorem lcM_isPrime : LC yM_isPrime cM_isPrime 3 (some .boolean) 1 := ⟨gw 724 (by decide +kernel) (by decide +kernel), gw 57 (by decide +kernel) (by decide +kernel), by decide +kernel, by decide +kernel⟩
theorem lsM_75 : LSt "TreeStepsModel" 75 yM_isPrime cM_isPrime 3 (some .boolean) 1 := ⟨gw 722 (by decide +kernel) (by decide +kernel), gw 723 (by decide +kernel) (by decide +kernel), lcM_isPrime⟩
theorem lcM_in : LC yM_in cM_in 6 (some .boolean) 3 := ⟨gw 721 (by decide +kernel) (by decide +kernel), gw 57 (by decide +kernel) (by decide +kernel), by decide +kernel, by decide +kernel⟩
theorem lsM_71 : LSt "TreeStepsModel" 71 yM_in cM_in 6 (some .boolean) 3 := ⟨gw 719 (by decide +kernel) (by decide +kernel), gw 720 (by decide +kernel) (by decide +kernel), lcM_in⟩
theorem kiM_79 : Cond.constant "TreeStepsModel" 79 (998244353:Int32) ∈ gtbl := gw 725 (by decide +kernel) (by decide +kernel)
theorem ffM_80 : ∀ t ∈ [12], FF "TreeStepsModel" 80 t 2 (.int) := by
  intro t ht
  rw [List.mem_singleton.mp ht]
  exact ⟨RM, TM, 20, tyM, rfl, by decide, inM, tyM_ok, nmM, rfl, rfl, rfl, (gw 732 (by decide +kernel) (by decide +kernel))⟩
theorem lcM_follow : LC yM_follow cM_follow 7 (some .boolean) 1 := ⟨gw 729 (by decide +kernel) (by decide +kernel), gw 57 (by decide +kernel) (by decide +kernel), by decide +kernel, by decide +kernel⟩
theorem lmM_83 : LM "TreeStepsModel" 83 12 yM_follow cM_follow 7 (some .boolean) 1 := ⟨RM, TM, 20, rfl, gw 726 (by decide +kernel) (by decide +kernel), gw 728 (by decide +kernel) (by decide +kernel), gw 30 (by decide +kernel) (by decide +kernel), lcM_follow⟩
theorem klM_86 : Cond.constantLong "TreeStepsModel" 86 (36:Int64) ∈ gtbl := gw 804 (by decide +kernel) (by decide +kernel)
theorem klM_88 : Cond.constantLong "TreeStepsModel" 88 (6:Int64) ∈ gtbl := gw 795 (by decide +kernel) (by decide +kernel)
theorem kiM_90 : Cond.constant "TreeStepsModel" 90 (-1000001:Int32) ∈ gtbl := gw 796 (by decide +kernel) (by decide +kernel)
theorem fpM_1 : ∀ t ∈ [12], FP "TreeStepsModel" 1 t 0 (.int) := by
  intro t ht
  rw [List.mem_singleton.mp ht]
  exact ⟨RM, TM, 20, tyM, rfl, by decide, inM, tyM_ok, nmM, rfl, rfl, Or.inl (gw 730 (by decide +kernel) (by decide +kernel))⟩
theorem kiM_95 : Cond.constant "TreeStepsModel" 95 (-1000000:Int32) ∈ gtbl := gw 814 (by decide +kernel) (by decide +kernel)
theorem lcM_endOf : LC yM_endOf cM_endOf 4 (some .int) 2 := ⟨gw 813 (by decide +kernel) (by decide +kernel), gw 57 (by decide +kernel) (by decide +kernel), by decide +kernel, by decide +kernel⟩
theorem lmM_91 : LM "TreeStepsModel" 91 12 yM_endOf cM_endOf 4 (some .int) 2 := ⟨RM, TM, 20, rfl, gw 810 (by decide +kernel) (by decide +kernel), gw 812 (by decide +kernel) (by decide +kernel), gw 32 (by decide +kernel) (by decide +kernel), lcM_endOf⟩
theorem klM_99 : Cond.constantLong "TreeStepsModel" 99 (3:Int64) ∈ gtbl := gw 805 (by decide +kernel) (by decide +kernel)
theorem lcM_isTree : LC yM_isTree cM_isTree 1 (some .boolean) 1 := ⟨gw 803 (by decide +kernel) (by decide +kernel), gw 57 (by decide +kernel) (by decide +kernel), by decide +kernel, by decide +kernel⟩
theorem lsM_96 : LSt "TreeStepsModel" 96 yM_isTree cM_isTree 1 (some .boolean) 1 := ⟨gw 801 (by decide +kernel) (by decide +kernel), gw 802 (by decide +kernel) (by decide +kernel), lcM_isTree⟩
theorem lcM_density : LC yM_density cM_density 4 (some .int) 1 := ⟨gw 818 (by decide +kernel) (by decide +kernel), gw 57 (by decide +kernel) (by decide +kernel), by decide +kernel, by decide +kernel⟩
theorem lmM_105 : LM "TreeStepsModel" 105 12 yM_density cM_density 4 (some .int) 1 := ⟨RM, TM, 20, rfl, gw 815 (by decide +kernel) (by decide +kernel), gw 817 (by decide +kernel) (by decide +kernel), gw 33 (by decide +kernel) (by decide +kernel), lcM_density⟩
theorem lcM_symmetry : LC yM_symmetry cM_symmetry 11 (some .int) 1 := ⟨gw 809 (by decide +kernel) (by decide +kernel), gw 57 (by decide +kernel) (by decide +kernel), by decide +kernel, by decide +kernel⟩
theorem lmM_101 : LM "TreeStepsModel" 101 12 yM_symmetry cM_symmetry 11 (some .int) 1 := ⟨RM, TM, 20, rfl, gw 806 (by decide +kernel) (by decide +kernel), gw 808 (by decide +kernel) (by decide +kernel), gw 31 (by decide +kernel) (by decide +kernel), lcM_symmetry⟩
theorem lcM_isGreater : LC yM_isGreater cM_isGreater 7 (some .boolean) 4 := ⟨gw 830 (by decide +kernel) (by decide +kernel), gw 57 (by decide +kernel) (by decide +kernel), by decide +kernel, by decide +kernel⟩
theorem lmM_108 : LM "TreeStepsModel" 108 12 yM_isGreater cM_isGreater 7 (some .boolean) 4 := ⟨RM, TM, 20, rfl, gw 827 (by decide +kernel) (by decide +kernel), gw 829 (by decide +kernel) (by decide +kernel), gw 34 (by decide +kernel) (by decide +kernel), lcM_isGreater⟩
theorem fgM_24 : ∀ t ∈ [12], FG "TreeStepsModel" 24 t 5 := by
  intro t ht
  rw [List.mem_singleton.mp ht]
  exact ⟨RM, TM, 20, rfl, by decide, inM, Or.inl (gw 735 (by decide +kernel) (by decide +kernel))⟩
theorem klM_112 : Cond.constantLong "TreeStepsModel" 112 (7:Int64) ∈ gtbl := gw 838 (by decide +kernel) (by decide +kernel)
theorem klM_117 : Cond.constantLong "TreeStepsModel" 117 (2:Int64) ∈ gtbl := gw 839 (by decide +kernel) (by decide +kernel)
theorem fgM_30 : ∀ t ∈ [12], FG "TreeStepsModel" 30 t 7 := by
  intro t ht
  rw [List.mem_singleton.mp ht]
  exact ⟨RM, TM, 20, rfl, by decide, inM, Or.inl (gw 737 (by decide +kernel) (by decide +kernel))⟩
theorem fgM_27 : ∀ t ∈ [12], FG "TreeStepsModel" 27 t 6 := by
  intro t ht
  rw [List.mem_singleton.mp ht]
  exact ⟨RM, TM, 20, rfl, by decide, inM, Or.inl (gw 736 (by decide +kernel) (by decide +kernel))⟩
theorem lcM_found : LC yM_found cM_found 2 (some .int) 1 := ⟨gw 843 (by decide +kernel) (by decide +kernel), gw 57 (by decide +kernel) (by decide +kernel), by decide +kernel, by decide +kernel⟩
theorem lmM_119 : LM "TreeStepsModel" 119 12 yM_found cM_found 2 (some .int) 1 := ⟨RM, TM, 20, rfl, gw 840 (by decide +kernel) (by decide +kernel), gw 842 (by decide +kernel) (by decide +kernel), gw 35 (by decide +kernel) (by decide +kernel), lcM_found⟩
theorem lcM_isSheet : LC yM_isSheet cM_isSheet 1 (some .boolean) 1 := ⟨gw 837 (by decide +kernel) (by decide +kernel), gw 57 (by decide +kernel) (by decide +kernel), by decide +kernel, by decide +kernel⟩
theorem lsM_114 : LSt "TreeStepsModel" 114 yM_isSheet cM_isSheet 1 (some .boolean) 1 := ⟨gw 835 (by decide +kernel) (by decide +kernel), gw 836 (by decide +kernel) (by decide +kernel), lcM_isSheet⟩
theorem fgM_33 : ∀ t ∈ [12], FG "TreeStepsModel" 33 t 8 := by
  intro t ht
  rw [List.mem_singleton.mp ht]
  exact ⟨RM, TM, 20, rfl, by decide, inM, Or.inl (gw 738 (by decide +kernel) (by decide +kernel))⟩
theorem klM_122 : Cond.constantLong "TreeStepsModel" 122 (-1000001:Int64) ∈ gtbl := gw 849 (by decide +kernel) (by decide +kernel)
theorem klM_124 : Cond.constantLong "TreeStepsModel" 124 (9:Int64) ∈ gtbl := gw 865 (by decide +kernel) (by decide +kernel)
theorem fgM_80 : ∀ t ∈ [12], FG "TreeStepsModel" 80 t 2 := by
  intro t ht
  rw [List.mem_singleton.mp ht]
  exact ⟨RM, TM, 20, rfl, by decide, inM, Or.inl (gw 732 (by decide +kernel) (by decide +kernel))⟩
theorem fgM_37 : ∀ t ∈ [12], FG "TreeStepsModel" 37 t 9 := by
  intro t ht
  rw [List.mem_singleton.mp ht]
  exact ⟨RM, TM, 20, rfl, by decide, inM, Or.inl (gw 739 (by decide +kernel) (by decide +kernel))⟩
theorem fgM_40 : ∀ t ∈ [12], FG "TreeStepsModel" 40 t 10 := by
  intro t ht
  rw [List.mem_singleton.mp ht]
  exact ⟨RM, TM, 20, rfl, by decide, inM, Or.inl (gw 740 (by decide +kernel) (by decide +kernel))⟩
theorem fgM_43 : ∀ t ∈ [12], FG "TreeStepsModel" 43 t 11 := by
  intro t ht
  rw [List.mem_singleton.mp ht]
  exact ⟨RM, TM, 20, rfl, by decide, inM, Or.inl (gw 741 (by decide +kernel) (by decide +kernel))⟩
theorem lcM_kindOf : LC yM_kindOf cM_kindOf 12 (some .int) 1 := ⟨gw 886 (by decide +kernel) (by decide +kernel), gw 57 (by decide +kernel) (by decide +kernel), by decide +kernel, by decide +kernel⟩
theorem lmM_126 : LM "TreeStepsModel" 126 12 yM_kindOf cM_kindOf 12 (some .int) 1 := ⟨RM, TM, 20, rfl, gw 883 (by decide +kernel) (by decide +kernel), gw 885 (by decide +kernel) (by decide +kernel), gw 40 (by decide +kernel) (by decide +kernel), lcM_kindOf⟩
theorem klM_132 : Cond.constantLong "TreeStepsModel" 132 (4:Int64) ∈ gtbl := gw 866 (by decide +kernel) (by decide +kernel)
theorem lcM_isPlace : LC yM_isPlace cM_isPlace 1 (some .boolean) 1 := ⟨gw 864 (by decide +kernel) (by decide +kernel), gw 57 (by decide +kernel) (by decide +kernel), by decide +kernel, by decide +kernel⟩
theorem lsM_129 : LSt "TreeStepsModel" 129 yM_isPlace cM_isPlace 1 (some .boolean) 1 := ⟨gw 862 (by decide +kernel) (by decide +kernel), gw 863 (by decide +kernel) (by decide +kernel), lcM_isPlace⟩
theorem lcM_wipe : LC yM_wipe cM_wipe 3 none 1 := ⟨gw 874 (by decide +kernel) (by decide +kernel), gw 57 (by decide +kernel) (by decide +kernel), by decide +kernel, by decide +kernel⟩
theorem lmM_138 : LM "TreeStepsModel" 138 12 yM_wipe cM_wipe 3 none 1 := ⟨RM, TM, 20, rfl, gw 871 (by decide +kernel) (by decide +kernel), gw 873 (by decide +kernel) (by decide +kernel), gw 37 (by decide +kernel) (by decide +kernel), lcM_wipe⟩
theorem lcM_modulo : LC yM_modulo cM_modulo 5 (some .long) 1 := ⟨gw 870 (by decide +kernel) (by decide +kernel), gw 57 (by decide +kernel) (by decide +kernel), by decide +kernel, by decide +kernel⟩
theorem lmM_134 : LM "TreeStepsModel" 134 12 yM_modulo cM_modulo 5 (some .long) 1 := ⟨RM, TM, 20, rfl, gw 867 (by decide +kernel) (by decide +kernel), gw 869 (by decide +kernel) (by decide +kernel), gw 36 (by decide +kernel) (by decide +kernel), lcM_modulo⟩
theorem lcM_lay : LC yM_lay cM_lay 3 (some .int) 1 := ⟨gw 882 (by decide +kernel) (by decide +kernel), gw 57 (by decide +kernel) (by decide +kernel), by decide +kernel, by decide +kernel⟩
theorem lmM_145 : LM "TreeStepsModel" 145 12 yM_lay cM_lay 3 (some .int) 1 := ⟨RM, TM, 20, rfl, gw 879 (by decide +kernel) (by decide +kernel), gw 881 (by decide +kernel) (by decide +kernel), gw 39 (by decide +kernel) (by decide +kernel), lcM_lay⟩
theorem lcM_inverse : LC yM_inverse cM_inverse 8 (some .long) 1 := ⟨gw 878 (by decide +kernel) (by decide +kernel), gw 57 (by decide +kernel) (by decide +kernel), by decide +kernel, by decide +kernel⟩
theorem lmM_142 : LM "TreeStepsModel" 142 12 yM_inverse cM_inverse 8 (some .long) 1 := ⟨RM, TM, 20, rfl, gw 875 (by decide +kernel) (by decide +kernel), gw 877 (by decide +kernel) (by decide +kernel), gw 38 (by decide +kernel) (by decide +kernel), lcM_inverse⟩
theorem kiM_148 : Cond.constant "TreeStepsModel" 148 (-1000003:Int32) ∈ gtbl := gw 891 (by decide +kernel) (by decide +kernel)
theorem lcM_look : LC yM_look cM_look 2 (some .int) 1 := ⟨gw 911 (by decide +kernel) (by decide +kernel), gw 57 (by decide +kernel) (by decide +kernel), by decide +kernel, by decide +kernel⟩
theorem lmM_149 : LM "TreeStepsModel" 149 12 yM_look cM_look 2 (some .int) 1 := ⟨RM, TM, 20, rfl, gw 908 (by decide +kernel) (by decide +kernel), gw 910 (by decide +kernel) (by decide +kernel), gw 41 (by decide +kernel) (by decide +kernel), lcM_look⟩
theorem fgM_7 : ∀ t ∈ [12], FG "TreeStepsModel" 7 t 1 := by
  intro t ht
  rw [List.mem_singleton.mp ht]
  exact ⟨RM, TM, 20, rfl, by decide, inM, Or.inl (gw 731 (by decide +kernel) (by decide +kernel))⟩
theorem lcM_isOf : LC yM_isOf cM_isOf 2 (some .boolean) 2 := ⟨gw 922 (by decide +kernel) (by decide +kernel), gw 57 (by decide +kernel) (by decide +kernel), by decide +kernel, by decide +kernel⟩
theorem lsM_152 : LSt "TreeStepsModel" 152 yM_isOf cM_isOf 2 (some .boolean) 2 := ⟨gw 920 (by decide +kernel) (by decide +kernel), gw 921 (by decide +kernel) (by decide +kernel), lcM_isOf⟩
theorem fpM_156 : ∀ t ∈ [12], FP "TreeStepsModel" 156 t 13 (.int) := by
  intro t ht
  rw [List.mem_singleton.mp ht]
  exact ⟨RM, TM, 20, tyM, rfl, by decide, inM, tyM_ok, nmM, rfl, rfl, Or.inl (gw 743 (by decide +kernel) (by decide +kernel))⟩
theorem fgM_156 : ∀ t ∈ [12], FG "TreeStepsModel" 156 t 13 := by
  intro t ht
  rw [List.mem_singleton.mp ht]
  exact ⟨RM, TM, 20, rfl, by decide, inM, Or.inl (gw 743 (by decide +kernel) (by decide +kernel))⟩
theorem fgM_46 : ∀ t ∈ [12], FG "TreeStepsModel" 46 t 12 := by
  intro t ht
  rw [List.mem_singleton.mp ht]
  exact ⟨RM, TM, 20, rfl, by decide, inM, Or.inl (gw 742 (by decide +kernel) (by decide +kernel))⟩
theorem lcM_began : LC yM_began cM_began 2 none 1 := ⟨gw 934 (by decide +kernel) (by decide +kernel), gw 57 (by decide +kernel) (by decide +kernel), by decide +kernel, by decide +kernel⟩
theorem lmM_159 : LM "TreeStepsModel" 159 12 yM_began cM_began 2 none 1 := ⟨RM, TM, 20, rfl, gw 931 (by decide +kernel) (by decide +kernel), gw 933 (by decide +kernel) (by decide +kernel), gw 42 (by decide +kernel) (by decide +kernel), lcM_began⟩
theorem fgM_49 : ∀ t ∈ [12], FG "TreeStepsModel" 49 t 14 := by
  intro t ht
  rw [List.mem_singleton.mp ht]
  exact ⟨RM, TM, 20, rfl, by decide, inM, Or.inl (gw 744 (by decide +kernel) (by decide +kernel))⟩
theorem lcM_weightOf : LC yM_weightOf cM_weightOf 10 (some .long) 2 := ⟨gw 954 (by decide +kernel) (by decide +kernel), gw 57 (by decide +kernel) (by decide +kernel), by decide +kernel, by decide +kernel⟩
theorem lmM_168 : LM "TreeStepsModel" 168 12 yM_weightOf cM_weightOf 10 (some .long) 2 := ⟨RM, TM, 20, rfl, gw 951 (by decide +kernel) (by decide +kernel), gw 953 (by decide +kernel) (by decide +kernel), gw 47 (by decide +kernel) (by decide +kernel), lcM_weightOf⟩
theorem lcM_fits : LC yM_fits cM_fits 3 (some .boolean) 2 := ⟨gw 950 (by decide +kernel) (by decide +kernel), gw 57 (by decide +kernel) (by decide +kernel), by decide +kernel, by decide +kernel⟩
theorem lmM_172 : LM "TreeStepsModel" 172 12 yM_fits cM_fits 3 (some .boolean) 2 := ⟨RM, TM, 20, rfl, gw 947 (by decide +kernel) (by decide +kernel), gw 949 (by decide +kernel) (by decide +kernel), gw 46 (by decide +kernel) (by decide +kernel), lcM_fits⟩
theorem lcM_firstNot : LC yM_firstNot cM_firstNot 3 (some .int) 1 := ⟨gw 946 (by decide +kernel) (by decide +kernel), gw 57 (by decide +kernel) (by decide +kernel), by decide +kernel, by decide +kernel⟩
theorem lmM_175 : LM "TreeStepsModel" 175 12 yM_firstNot cM_firstNot 3 (some .int) 1 := ⟨RM, TM, 20, rfl, gw 943 (by decide +kernel) (by decide +kernel), gw 945 (by decide +kernel) (by decide +kernel), gw 45 (by decide +kernel) (by decide +kernel), lcM_firstNot⟩
theorem lcM_sized : LC yM_sized cM_sized 4 (some .int) 2 := ⟨gw 938 (by decide +kernel) (by decide +kernel), gw 57 (by decide +kernel) (by decide +kernel), by decide +kernel, by decide +kernel⟩
theorem lmM_162 : LM "TreeStepsModel" 162 12 yM_sized cM_sized 4 (some .int) 2 := ⟨RM, TM, 20, rfl, gw 935 (by decide +kernel) (by decide +kernel), gw 937 (by decide +kernel) (by decide +kernel), gw 43 (by decide +kernel) (by decide +kernel), lcM_sized⟩
theorem lcM_orderOf : LC yM_orderOf cM_orderOf 3 (some .int) 1 := ⟨gw 942 (by decide +kernel) (by decide +kernel), gw 57 (by decide +kernel) (by decide +kernel), by decide +kernel, by decide +kernel⟩
theorem lmM_165 : LM "TreeStepsModel" 165 12 yM_orderOf cM_orderOf 3 (some .int) 1 := ⟨RM, TM, 20, rfl, gw 939 (by decide +kernel) (by decide +kernel), gw 941 (by decide +kernel) (by decide +kernel), gw 44 (by decide +kernel) (by decide +kernel), lcM_orderOf⟩
theorem klM_178 : Cond.constantLong "TreeStepsModel" 178 (8:Int64) ∈ gtbl := gw 971 (by decide +kernel) (by decide +kernel)
theorem fgM_64 : ∀ t ∈ [12], FG "TreeStepsModel" 64 t 19 := by
  intro t ht
  rw [List.mem_singleton.mp ht]
  exact ⟨RM, TM, 20, rfl, by decide, inM, Or.inl (gw 749 (by decide +kernel) (by decide +kernel))⟩
theorem fgM_61 : ∀ t ∈ [12], FG "TreeStepsModel" 61 t 18 := by
  intro t ht
  rw [List.mem_singleton.mp ht]
  exact ⟨RM, TM, 20, rfl, by decide, inM, Or.inl (gw 748 (by decide +kernel) (by decide +kernel))⟩
theorem fgM_52 : ∀ t ∈ [12], FG "TreeStepsModel" 52 t 15 := by
  intro t ht
  rw [List.mem_singleton.mp ht]
  exact ⟨RM, TM, 20, rfl, by decide, inM, Or.inl (gw 745 (by decide +kernel) (by decide +kernel))⟩
theorem fgM_58 : ∀ t ∈ [12], FG "TreeStepsModel" 58 t 17 := by
  intro t ht
  rw [List.mem_singleton.mp ht]
  exact ⟨RM, TM, 20, rfl, by decide, inM, Or.inl (gw 747 (by decide +kernel) (by decide +kernel))⟩
theorem fgM_55 : ∀ t ∈ [12], FG "TreeStepsModel" 55 t 16 := by
  intro t ht
  rw [List.mem_singleton.mp ht]
  exact ⟨RM, TM, 20, rfl, by decide, inM, Or.inl (gw 746 (by decide +kernel) (by decide +kernel))⟩
theorem klM_180 : Cond.constantLong "TreeStepsModel" 180 (1000:Int64) ∈ gtbl := gw 976 (by decide +kernel) (by decide +kernel)
theorem lcM_power : LC yM_power cM_power 7 (some .long) 2 := ⟨gw 980 (by decide +kernel) (by decide +kernel), gw 57 (by decide +kernel) (by decide +kernel), by decide +kernel, by decide +kernel⟩
theorem lmM_182 : LM "TreeStepsModel" 182 12 yM_power cM_power 7 (some .long) 2 := ⟨RM, TM, 20, rfl, gw 977 (by decide +kernel) (by decide +kernel), gw 979 (by decide +kernel) (by decide +kernel), gw 48 (by decide +kernel) (by decide +kernel), lcM_power⟩

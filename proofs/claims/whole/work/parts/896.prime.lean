/-! one prime on both sides -/
section PR
variable {I : Nat → Nat → Int32} {L : Nat → Nat → Int64} {R : Nat → Option Nat} {tl : MH} {v : Nat}
def mpC (v j : Nat) : Bool := decide (¬ v % (j + 2) = 0)
def mpT (v j : Nat) : Bool := decide ((j + 2) * (j + 2) ≤ v) && aB (mpC v) j
def mpB (v : Nat) : Bool := aB (mpC v) (ff (mpT v) 44800)
theorem M_prime {h : MH} (h1 : 101 ≤ v) (h2 : v ≤ 2000000000) : fM_isPrime 60000 h (nI v) = some (h, bI (mpB v)) := by
  have e0 : fM_isPrime 60000 h (nI v) = fM_isPrime_13 60000 h (nI v) (nI 1) (nI 2) := by
    unfold fM_isPrime fM_isPrime_10
    rw [if_neg]
    · rfl
    · show ¬ nI v ≤ nI 1
      rw [Int32.le_iff_toInt_le, nI_toInt (by omega), nI_toInt (by omega)]
      omega
  rw [e0]
  refine lp_ff (B := fun n k s => bM_isPrime_13 n k s.1 s.2.1 s.2.2.1 s.2.2.2) (fun i => (h, nI v, bI (aB (mpC v) i), nI (i + 2))) (mpT v) 0 44800 (fun i => some (h, bI (aB (mpC v) i))) rfl (fun i hi hc n q _ => ?_) (fun i hi hc n q _ => ?_) (fun n q _ => ?_) (by omega)
  · unfold mpT at hc
    simp only [Bool.and_eq_true, decide_eq_true_eq] at hc
    have hb : (i + 2) * (i + 2) ≤ 44802 * 44802 := Nat.mul_le_mul (by omega) (by omega)
    rw [aB_s, hc.2, Bool.true_and, show bI true = nI 1 from rfl]
    have hm := Nat.mod_lt v (show i + 2 > 0 by omega)
    unfold mpC
    by_cases e : v % (i + 2) = 0
    · rw [bI_f (by simpa using e)]
      simp (maxSteps := 1000000) (disch := omega) only [↓o_1_0b, ↓o_1_1b, ↓o_1_2b, ↓o_1_3b, ↓o_1_4b, ↓o_1_5b, ↓o_1_6b, ↓o_1_7b, ↓c_1b, ↓o_87_0b, ↓o_87_1b, ↓o_87_2b, ↓o_87_3b, ↓c_87b, ↓o_90_0b, ↓o_90_1b, ↓o_90_2b, ↓c_90b, ↓o_93_0b, ↓c_93b, ↓o_3_0b, ↓o_3_1b, ↓o_3_2b, ↓o_3_3b, ↓o_3_4b, ↓o_3_5b, ↓o_3_6b, ↓o_3_7b, ↓o_3_8b, ↓c_3b, ↓o_114_3b, ↓o_114_4b, ↓o_114_5b, ↓o_114_6b, ↓o_114_7b, ↓o_114_8b, ↓o_114_9b, ↓o_114_10b, ↓o_114_11b, ↓o_114_12b, ↓o_114_14b, ↓o_114_15b, ↓o_114_16b, ↓o_114_17b, ↓o_114_18b, ↓o_114_19b, ↓c_114b, ↓c_2b, ↓o_2_0b, ↓o_1_8b, ↓p_1_8b, ↓o_93_1b, ↓p_93_1b, ↓o_114_0b, ↓o_114_1b, ↓p_114_1b, ↓o_114_2b, ↓p_114_2b, ↓o_114_13b, ↓p_114_13b, ↓c_shb, ↓o_sh_0b, ↓o_sh_1b, ↓o_sh_2b, ↓p_sh_1b, ↓p_sh_2b, ↓reduceIte, Nat.reduceAdd, Nat.reduceMul, Nat.reduceSub, Nat.reduceEqDiff, lit32, litL, nI_add, nI_mul, nI_sub, lN_add, lN_mul, lN_sub, lrmN, irmN, lN_div, nI_div, nzLN, nzIN, nI_l, lN_i, nI_le, nI_ge, nI_lt, nI_nlt, nIne, lNle, lNnle, lNlt, lNnlt, lNne, uA_eq, uA_ne, uA_uA, fu_eq, fu_ne, fu_fu, stA_ne, stA_8, stB_ne, stB_1, stB_o, stA_stA, stB_stB, bnd2_e, Option.bind_some, retZ0, retZ1, retZ0', retZ1', if_true, if_false, ite_true, ite_false, true_and, and_true, false_and, and_false, not_true, not_false_eq_true, rL_88, wL_88, rL_89, wL_89, rL_91, wL_91, rL_92, wL_92, rL_113, wL_113, rL_120, wL_120, rL_122, wL_122, rL_123, wL_123, rL_125, wL_125, rL_126, wL_126, rL_127, wL_127, rL_128, wL_128, rL_129, wL_129, rL_130, wL_130, rI_94, wI_94, rI_117, wI_117, rI_118, wI_118, rI_119, wI_119, rI_121, wI_121, rI_124, wI_124, rI_42, rI_43, rI_44, rI_45, rI_46, rI_47, rI_115, rI_116, o_1_0, o_1_1, o_1_2, o_1_3, o_1_4, o_1_5, o_1_6, o_1_7, c_1, o_87_0, o_87_1, o_87_2, o_87_3, c_87, o_90_0, o_90_1, o_90_2, c_90, o_93_0, c_93, o_3_0, o_3_1, o_3_2, o_3_3, o_3_4, o_3_5, o_3_6, o_3_7, o_3_8, c_3, o_114_3, o_114_4, o_114_5, o_114_6, o_114_7, o_114_8, o_114_9, o_114_10, o_114_11, o_114_12, o_114_14, o_114_15, o_114_16, o_114_17, o_114_18, o_114_19, c_114, c_2, o_2_0, o_1_8, p_1_8, o_93_1, p_93_1, o_114_0, o_114_1, p_114_1, o_114_2, p_114_2, o_114_13, p_114_13, c_sh, o_sh_0, o_sh_1, o_sh_2, p_sh_1, p_sh_2, rL_it, wL_it, ↓rS, rLv, rHu, ↓rLr, ↓rHr, ↓rSh, rShR, wShR, nul_s, nul_n, bM_isPrime_13, e, fM_isPrime_39]
    · rw [bI_t (by simpa using e)]
      simp (maxSteps := 1000000) (disch := omega) only [↓o_1_0b, ↓o_1_1b, ↓o_1_2b, ↓o_1_3b, ↓o_1_4b, ↓o_1_5b, ↓o_1_6b, ↓o_1_7b, ↓c_1b, ↓o_87_0b, ↓o_87_1b, ↓o_87_2b, ↓o_87_3b, ↓c_87b, ↓o_90_0b, ↓o_90_1b, ↓o_90_2b, ↓c_90b, ↓o_93_0b, ↓c_93b, ↓o_3_0b, ↓o_3_1b, ↓o_3_2b, ↓o_3_3b, ↓o_3_4b, ↓o_3_5b, ↓o_3_6b, ↓o_3_7b, ↓o_3_8b, ↓c_3b, ↓o_114_3b, ↓o_114_4b, ↓o_114_5b, ↓o_114_6b, ↓o_114_7b, ↓o_114_8b, ↓o_114_9b, ↓o_114_10b, ↓o_114_11b, ↓o_114_12b, ↓o_114_14b, ↓o_114_15b, ↓o_114_16b, ↓o_114_17b, ↓o_114_18b, ↓o_114_19b, ↓c_114b, ↓c_2b, ↓o_2_0b, ↓o_1_8b, ↓p_1_8b, ↓o_93_1b, ↓p_93_1b, ↓o_114_0b, ↓o_114_1b, ↓p_114_1b, ↓o_114_2b, ↓p_114_2b, ↓o_114_13b, ↓p_114_13b, ↓c_shb, ↓o_sh_0b, ↓o_sh_1b, ↓o_sh_2b, ↓p_sh_1b, ↓p_sh_2b, ↓reduceIte, Nat.reduceAdd, Nat.reduceMul, Nat.reduceSub, Nat.reduceEqDiff, lit32, litL, nI_add, nI_mul, nI_sub, lN_add, lN_mul, lN_sub, lrmN, irmN, lN_div, nI_div, nzLN, nzIN, nI_l, lN_i, nI_le, nI_ge, nI_lt, nI_nlt, nIne, lNle, lNnle, lNlt, lNnlt, lNne, uA_eq, uA_ne, uA_uA, fu_eq, fu_ne, fu_fu, stA_ne, stA_8, stB_ne, stB_1, stB_o, stA_stA, stB_stB, bnd2_e, Option.bind_some, retZ0, retZ1, retZ0', retZ1', if_true, if_false, ite_true, ite_false, true_and, and_true, false_and, and_false, not_true, not_false_eq_true, rL_88, wL_88, rL_89, wL_89, rL_91, wL_91, rL_92, wL_92, rL_113, wL_113, rL_120, wL_120, rL_122, wL_122, rL_123, wL_123, rL_125, wL_125, rL_126, wL_126, rL_127, wL_127, rL_128, wL_128, rL_129, wL_129, rL_130, wL_130, rI_94, wI_94, rI_117, wI_117, rI_118, wI_118, rI_119, wI_119, rI_121, wI_121, rI_124, wI_124, rI_42, rI_43, rI_44, rI_45, rI_46, rI_47, rI_115, rI_116, o_1_0, o_1_1, o_1_2, o_1_3, o_1_4, o_1_5, o_1_6, o_1_7, c_1, o_87_0, o_87_1, o_87_2, o_87_3, c_87, o_90_0, o_90_1, o_90_2, c_90, o_93_0, c_93, o_3_0, o_3_1, o_3_2, o_3_3, o_3_4, o_3_5, o_3_6, o_3_7, o_3_8, c_3, o_114_3, o_114_4, o_114_5, o_114_6, o_114_7, o_114_8, o_114_9, o_114_10, o_114_11, o_114_12, o_114_14, o_114_15, o_114_16, o_114_17, o_114_18, o_114_19, c_114, c_2, o_2_0, o_1_8, p_1_8, o_93_1, p_93_1, o_114_0, o_114_1, p_114_1, o_114_2, p_114_2, o_114_13, p_114_13, c_sh, o_sh_0, o_sh_1, o_sh_2, p_sh_1, p_sh_2, rL_it, wL_it, ↓rS, rLv, rHu, ↓rLr, ↓rHr, ↓rSh, rShR, wShR, nul_s, nul_n, bM_isPrime_13, fM_isPrime_39]
  · have hb : (i + 2) * (i + 2) ≤ 44802 * 44802 := Nat.mul_le_mul (by omega) (by omega)
    unfold mpT at hc
    by_cases e : (i + 2) * (i + 2) ≤ v
    · simp only [e, decide_true, Bool.true_and] at hc
      rw [hc, show bI false = nI 0 from rfl]
      simp (maxSteps := 1000000) (disch := omega) only [↓o_1_0b, ↓o_1_1b, ↓o_1_2b, ↓o_1_3b, ↓o_1_4b, ↓o_1_5b, ↓o_1_6b, ↓o_1_7b, ↓c_1b, ↓o_87_0b, ↓o_87_1b, ↓o_87_2b, ↓o_87_3b, ↓c_87b, ↓o_90_0b, ↓o_90_1b, ↓o_90_2b, ↓c_90b, ↓o_93_0b, ↓c_93b, ↓o_3_0b, ↓o_3_1b, ↓o_3_2b, ↓o_3_3b, ↓o_3_4b, ↓o_3_5b, ↓o_3_6b, ↓o_3_7b, ↓o_3_8b, ↓c_3b, ↓o_114_3b, ↓o_114_4b, ↓o_114_5b, ↓o_114_6b, ↓o_114_7b, ↓o_114_8b, ↓o_114_9b, ↓o_114_10b, ↓o_114_11b, ↓o_114_12b, ↓o_114_14b, ↓o_114_15b, ↓o_114_16b, ↓o_114_17b, ↓o_114_18b, ↓o_114_19b, ↓c_114b, ↓c_2b, ↓o_2_0b, ↓o_1_8b, ↓p_1_8b, ↓o_93_1b, ↓p_93_1b, ↓o_114_0b, ↓o_114_1b, ↓p_114_1b, ↓o_114_2b, ↓p_114_2b, ↓o_114_13b, ↓p_114_13b, ↓c_shb, ↓o_sh_0b, ↓o_sh_1b, ↓o_sh_2b, ↓p_sh_1b, ↓p_sh_2b, ↓reduceIte, Nat.reduceAdd, Nat.reduceMul, Nat.reduceSub, Nat.reduceEqDiff, lit32, litL, nI_add, nI_mul, nI_sub, lN_add, lN_mul, lN_sub, lrmN, irmN, lN_div, nI_div, nzLN, nzIN, nI_l, lN_i, nI_le, nI_ge, nI_lt, nI_nlt, nIne, lNle, lNnle, lNlt, lNnlt, lNne, uA_eq, uA_ne, uA_uA, fu_eq, fu_ne, fu_fu, stA_ne, stA_8, stB_ne, stB_1, stB_o, stA_stA, stB_stB, bnd2_e, Option.bind_some, retZ0, retZ1, retZ0', retZ1', if_true, if_false, ite_true, ite_false, true_and, and_true, false_and, and_false, not_true, not_false_eq_true, rL_88, wL_88, rL_89, wL_89, rL_91, wL_91, rL_92, wL_92, rL_113, wL_113, rL_120, wL_120, rL_122, wL_122, rL_123, wL_123, rL_125, wL_125, rL_126, wL_126, rL_127, wL_127, rL_128, wL_128, rL_129, wL_129, rL_130, wL_130, rI_94, wI_94, rI_117, wI_117, rI_118, wI_118, rI_119, wI_119, rI_121, wI_121, rI_124, wI_124, rI_42, rI_43, rI_44, rI_45, rI_46, rI_47, rI_115, rI_116, o_1_0, o_1_1, o_1_2, o_1_3, o_1_4, o_1_5, o_1_6, o_1_7, c_1, o_87_0, o_87_1, o_87_2, o_87_3, c_87, o_90_0, o_90_1, o_90_2, c_90, o_93_0, c_93, o_3_0, o_3_1, o_3_2, o_3_3, o_3_4, o_3_5, o_3_6, o_3_7, o_3_8, c_3, o_114_3, o_114_4, o_114_5, o_114_6, o_114_7, o_114_8, o_114_9, o_114_10, o_114_11, o_114_12, o_114_14, o_114_15, o_114_16, o_114_17, o_114_18, o_114_19, c_114, c_2, o_2_0, o_1_8, p_1_8, o_93_1, p_93_1, o_114_0, o_114_1, p_114_1, o_114_2, p_114_2, o_114_13, p_114_13, c_sh, o_sh_0, o_sh_1, o_sh_2, p_sh_1, p_sh_2, rL_it, wL_it, ↓rS, rLv, rHu, ↓rLr, ↓rHr, ↓rSh, rShR, wShR, nul_s, nul_n, bM_isPrime_13]
    · cases hB : aB (mpC v) i with
      | true =>
        rw [show bI true = nI 1 from rfl]
        simp (maxSteps := 1000000) (disch := omega) only [↓o_1_0b, ↓o_1_1b, ↓o_1_2b, ↓o_1_3b, ↓o_1_4b, ↓o_1_5b, ↓o_1_6b, ↓o_1_7b, ↓c_1b, ↓o_87_0b, ↓o_87_1b, ↓o_87_2b, ↓o_87_3b, ↓c_87b, ↓o_90_0b, ↓o_90_1b, ↓o_90_2b, ↓c_90b, ↓o_93_0b, ↓c_93b, ↓o_3_0b, ↓o_3_1b, ↓o_3_2b, ↓o_3_3b, ↓o_3_4b, ↓o_3_5b, ↓o_3_6b, ↓o_3_7b, ↓o_3_8b, ↓c_3b, ↓o_114_3b, ↓o_114_4b, ↓o_114_5b, ↓o_114_6b, ↓o_114_7b, ↓o_114_8b, ↓o_114_9b, ↓o_114_10b, ↓o_114_11b, ↓o_114_12b, ↓o_114_14b, ↓o_114_15b, ↓o_114_16b, ↓o_114_17b, ↓o_114_18b, ↓o_114_19b, ↓c_114b, ↓c_2b, ↓o_2_0b, ↓o_1_8b, ↓p_1_8b, ↓o_93_1b, ↓p_93_1b, ↓o_114_0b, ↓o_114_1b, ↓p_114_1b, ↓o_114_2b, ↓p_114_2b, ↓o_114_13b, ↓p_114_13b, ↓c_shb, ↓o_sh_0b, ↓o_sh_1b, ↓o_sh_2b, ↓p_sh_1b, ↓p_sh_2b, ↓reduceIte, Nat.reduceAdd, Nat.reduceMul, Nat.reduceSub, Nat.reduceEqDiff, lit32, litL, nI_add, nI_mul, nI_sub, lN_add, lN_mul, lN_sub, lrmN, irmN, lN_div, nI_div, nzLN, nzIN, nI_l, lN_i, nI_le, nI_ge, nI_lt, nI_nlt, nIne, lNle, lNnle, lNlt, lNnlt, lNne, uA_eq, uA_ne, uA_uA, fu_eq, fu_ne, fu_fu, stA_ne, stA_8, stB_ne, stB_1, stB_o, stA_stA, stB_stB, bnd2_e, Option.bind_some, retZ0, retZ1, retZ0', retZ1', if_true, if_false, ite_true, ite_false, true_and, and_true, false_and, and_false, not_true, not_false_eq_true, rL_88, wL_88, rL_89, wL_89, rL_91, wL_91, rL_92, wL_92, rL_113, wL_113, rL_120, wL_120, rL_122, wL_122, rL_123, wL_123, rL_125, wL_125, rL_126, wL_126, rL_127, wL_127, rL_128, wL_128, rL_129, wL_129, rL_130, wL_130, rI_94, wI_94, rI_117, wI_117, rI_118, wI_118, rI_119, wI_119, rI_121, wI_121, rI_124, wI_124, rI_42, rI_43, rI_44, rI_45, rI_46, rI_47, rI_115, rI_116, o_1_0, o_1_1, o_1_2, o_1_3, o_1_4, o_1_5, o_1_6, o_1_7, c_1, o_87_0, o_87_1, o_87_2, o_87_3, c_87, o_90_0, o_90_1, o_90_2, c_90, o_93_0, c_93, o_3_0, o_3_1, o_3_2, o_3_3, o_3_4, o_3_5, o_3_6, o_3_7, o_3_8, c_3, o_114_3, o_114_4, o_114_5, o_114_6, o_114_7, o_114_8, o_114_9, o_114_10, o_114_11, o_114_12, o_114_14, o_114_15, o_114_16, o_114_17, o_114_18, o_114_19, c_114, c_2, o_2_0, o_1_8, p_1_8, o_93_1, p_93_1, o_114_0, o_114_1, p_114_1, o_114_2, p_114_2, o_114_13, p_114_13, c_sh, o_sh_0, o_sh_1, o_sh_2, p_sh_1, p_sh_2, rL_it, wL_it, ↓rS, rLv, rHu, ↓rLr, ↓rHr, ↓rSh, rShR, wShR, nul_s, nul_n, bM_isPrime_13]
      | false =>
        rw [show bI false = nI 0 from rfl]
        simp (maxSteps := 1000000) (disch := omega) only [↓o_1_0b, ↓o_1_1b, ↓o_1_2b, ↓o_1_3b, ↓o_1_4b, ↓o_1_5b, ↓o_1_6b, ↓o_1_7b, ↓c_1b, ↓o_87_0b, ↓o_87_1b, ↓o_87_2b, ↓o_87_3b, ↓c_87b, ↓o_90_0b, ↓o_90_1b, ↓o_90_2b, ↓c_90b, ↓o_93_0b, ↓c_93b, ↓o_3_0b, ↓o_3_1b, ↓o_3_2b, ↓o_3_3b, ↓o_3_4b, ↓o_3_5b, ↓o_3_6b, ↓o_3_7b, ↓o_3_8b, ↓c_3b, ↓o_114_3b, ↓o_114_4b, ↓o_114_5b, ↓o_114_6b, ↓o_114_7b, ↓o_114_8b, ↓o_114_9b, ↓o_114_10b, ↓o_114_11b, ↓o_114_12b, ↓o_114_14b, ↓o_114_15b, ↓o_114_16b, ↓o_114_17b, ↓o_114_18b, ↓o_114_19b, ↓c_114b, ↓c_2b, ↓o_2_0b, ↓o_1_8b, ↓p_1_8b, ↓o_93_1b, ↓p_93_1b, ↓o_114_0b, ↓o_114_1b, ↓p_114_1b, ↓o_114_2b, ↓p_114_2b, ↓o_114_13b, ↓p_114_13b, ↓c_shb, ↓o_sh_0b, ↓o_sh_1b, ↓o_sh_2b, ↓p_sh_1b, ↓p_sh_2b, ↓reduceIte, Nat.reduceAdd, Nat.reduceMul, Nat.reduceSub, Nat.reduceEqDiff, lit32, litL, nI_add, nI_mul, nI_sub, lN_add, lN_mul, lN_sub, lrmN, irmN, lN_div, nI_div, nzLN, nzIN, nI_l, lN_i, nI_le, nI_ge, nI_lt, nI_nlt, nIne, lNle, lNnle, lNlt, lNnlt, lNne, uA_eq, uA_ne, uA_uA, fu_eq, fu_ne, fu_fu, stA_ne, stA_8, stB_ne, stB_1, stB_o, stA_stA, stB_stB, bnd2_e, Option.bind_some, retZ0, retZ1, retZ0', retZ1', if_true, if_false, ite_true, ite_false, true_and, and_true, false_and, and_false, not_true, not_false_eq_true, rL_88, wL_88, rL_89, wL_89, rL_91, wL_91, rL_92, wL_92, rL_113, wL_113, rL_120, wL_120, rL_122, wL_122, rL_123, wL_123, rL_125, wL_125, rL_126, wL_126, rL_127, wL_127, rL_128, wL_128, rL_129, wL_129, rL_130, wL_130, rI_94, wI_94, rI_117, wI_117, rI_118, wI_118, rI_119, wI_119, rI_121, wI_121, rI_124, wI_124, rI_42, rI_43, rI_44, rI_45, rI_46, rI_47, rI_115, rI_116, o_1_0, o_1_1, o_1_2, o_1_3, o_1_4, o_1_5, o_1_6, o_1_7, c_1, o_87_0, o_87_1, o_87_2, o_87_3, c_87, o_90_0, o_90_1, o_90_2, c_90, o_93_0, c_93, o_3_0, o_3_1, o_3_2, o_3_3, o_3_4, o_3_5, o_3_6, o_3_7, o_3_8, c_3, o_114_3, o_114_4, o_114_5, o_114_6, o_114_7, o_114_8, o_114_9, o_114_10, o_114_11, o_114_12, o_114_14, o_114_15, o_114_16, o_114_17, o_114_18, o_114_19, c_114, c_2, o_2_0, o_1_8, p_1_8, o_93_1, p_93_1, o_114_0, o_114_1, p_114_1, o_114_2, p_114_2, o_114_13, p_114_13, c_sh, o_sh_0, o_sh_1, o_sh_2, p_sh_1, p_sh_2, rL_it, wL_it, ↓rS, rLv, rHu, ↓rLr, ↓rHr, ↓rSh, rShR, wShR, nul_s, nul_n, bM_isPrime_13]
  · cases hB : aB (mpC v) 44800 with
    | true =>
      rw [show bI true = nI 1 from rfl]
      simp (maxSteps := 1000000) (disch := omega) only [↓o_1_0b, ↓o_1_1b, ↓o_1_2b, ↓o_1_3b, ↓o_1_4b, ↓o_1_5b, ↓o_1_6b, ↓o_1_7b, ↓c_1b, ↓o_87_0b, ↓o_87_1b, ↓o_87_2b, ↓o_87_3b, ↓c_87b, ↓o_90_0b, ↓o_90_1b, ↓o_90_2b, ↓c_90b, ↓o_93_0b, ↓c_93b, ↓o_3_0b, ↓o_3_1b, ↓o_3_2b, ↓o_3_3b, ↓o_3_4b, ↓o_3_5b, ↓o_3_6b, ↓o_3_7b, ↓o_3_8b, ↓c_3b, ↓o_114_3b, ↓o_114_4b, ↓o_114_5b, ↓o_114_6b, ↓o_114_7b, ↓o_114_8b, ↓o_114_9b, ↓o_114_10b, ↓o_114_11b, ↓o_114_12b, ↓o_114_14b, ↓o_114_15b, ↓o_114_16b, ↓o_114_17b, ↓o_114_18b, ↓o_114_19b, ↓c_114b, ↓c_2b, ↓o_2_0b, ↓o_1_8b, ↓p_1_8b, ↓o_93_1b, ↓p_93_1b, ↓o_114_0b, ↓o_114_1b, ↓p_114_1b, ↓o_114_2b, ↓p_114_2b, ↓o_114_13b, ↓p_114_13b, ↓c_shb, ↓o_sh_0b, ↓o_sh_1b, ↓o_sh_2b, ↓p_sh_1b, ↓p_sh_2b, ↓reduceIte, Nat.reduceAdd, Nat.reduceMul, Nat.reduceSub, Nat.reduceEqDiff, lit32, litL, nI_add, nI_mul, nI_sub, lN_add, lN_mul, lN_sub, lrmN, irmN, lN_div, nI_div, nzLN, nzIN, nI_l, lN_i, nI_le, nI_ge, nI_lt, nI_nlt, nIne, lNle, lNnle, lNlt, lNnlt, lNne, uA_eq, uA_ne, uA_uA, fu_eq, fu_ne, fu_fu, stA_ne, stA_8, stB_ne, stB_1, stB_o, stA_stA, stB_stB, bnd2_e, Option.bind_some, retZ0, retZ1, retZ0', retZ1', if_true, if_false, ite_true, ite_false, true_and, and_true, false_and, and_false, not_true, not_false_eq_true, rL_88, wL_88, rL_89, wL_89, rL_91, wL_91, rL_92, wL_92, rL_113, wL_113, rL_120, wL_120, rL_122, wL_122, rL_123, wL_123, rL_125, wL_125, rL_126, wL_126, rL_127, wL_127, rL_128, wL_128, rL_129, wL_129, rL_130, wL_130, rI_94, wI_94, rI_117, wI_117, rI_118, wI_118, rI_119, wI_119, rI_121, wI_121, rI_124, wI_124, rI_42, rI_43, rI_44, rI_45, rI_46, rI_47, rI_115, rI_116, o_1_0, o_1_1, o_1_2, o_1_3, o_1_4, o_1_5, o_1_6, o_1_7, c_1, o_87_0, o_87_1, o_87_2, o_87_3, c_87, o_90_0, o_90_1, o_90_2, c_90, o_93_0, c_93, o_3_0, o_3_1, o_3_2, o_3_3, o_3_4, o_3_5, o_3_6, o_3_7, o_3_8, c_3, o_114_3, o_114_4, o_114_5, o_114_6, o_114_7, o_114_8, o_114_9, o_114_10, o_114_11, o_114_12, o_114_14, o_114_15, o_114_16, o_114_17, o_114_18, o_114_19, c_114, c_2, o_2_0, o_1_8, p_1_8, o_93_1, p_93_1, o_114_0, o_114_1, p_114_1, o_114_2, p_114_2, o_114_13, p_114_13, c_sh, o_sh_0, o_sh_1, o_sh_2, p_sh_1, p_sh_2, rL_it, wL_it, ↓rS, rLv, rHu, ↓rLr, ↓rHr, ↓rSh, rShR, wShR, nul_s, nul_n, bM_isPrime_13]
    | false =>
      rw [show bI false = nI 0 from rfl]
      simp (maxSteps := 1000000) (disch := omega) only [↓o_1_0b, ↓o_1_1b, ↓o_1_2b, ↓o_1_3b, ↓o_1_4b, ↓o_1_5b, ↓o_1_6b, ↓o_1_7b, ↓c_1b, ↓o_87_0b, ↓o_87_1b, ↓o_87_2b, ↓o_87_3b, ↓c_87b, ↓o_90_0b, ↓o_90_1b, ↓o_90_2b, ↓c_90b, ↓o_93_0b, ↓c_93b, ↓o_3_0b, ↓o_3_1b, ↓o_3_2b, ↓o_3_3b, ↓o_3_4b, ↓o_3_5b, ↓o_3_6b, ↓o_3_7b, ↓o_3_8b, ↓c_3b, ↓o_114_3b, ↓o_114_4b, ↓o_114_5b, ↓o_114_6b, ↓o_114_7b, ↓o_114_8b, ↓o_114_9b, ↓o_114_10b, ↓o_114_11b, ↓o_114_12b, ↓o_114_14b, ↓o_114_15b, ↓o_114_16b, ↓o_114_17b, ↓o_114_18b, ↓o_114_19b, ↓c_114b, ↓c_2b, ↓o_2_0b, ↓o_1_8b, ↓p_1_8b, ↓o_93_1b, ↓p_93_1b, ↓o_114_0b, ↓o_114_1b, ↓p_114_1b, ↓o_114_2b, ↓p_114_2b, ↓o_114_13b, ↓p_114_13b, ↓c_shb, ↓o_sh_0b, ↓o_sh_1b, ↓o_sh_2b, ↓p_sh_1b, ↓p_sh_2b, ↓reduceIte, Nat.reduceAdd, Nat.reduceMul, Nat.reduceSub, Nat.reduceEqDiff, lit32, litL, nI_add, nI_mul, nI_sub, lN_add, lN_mul, lN_sub, lrmN, irmN, lN_div, nI_div, nzLN, nzIN, nI_l, lN_i, nI_le, nI_ge, nI_lt, nI_nlt, nIne, lNle, lNnle, lNlt, lNnlt, lNne, uA_eq, uA_ne, uA_uA, fu_eq, fu_ne, fu_fu, stA_ne, stA_8, stB_ne, stB_1, stB_o, stA_stA, stB_stB, bnd2_e, Option.bind_some, retZ0, retZ1, retZ0', retZ1', if_true, if_false, ite_true, ite_false, true_and, and_true, false_and, and_false, not_true, not_false_eq_true, rL_88, wL_88, rL_89, wL_89, rL_91, wL_91, rL_92, wL_92, rL_113, wL_113, rL_120, wL_120, rL_122, wL_122, rL_123, wL_123, rL_125, wL_125, rL_126, wL_126, rL_127, wL_127, rL_128, wL_128, rL_129, wL_129, rL_130, wL_130, rI_94, wI_94, rI_117, wI_117, rI_118, wI_118, rI_119, wI_119, rI_121, wI_121, rI_124, wI_124, rI_42, rI_43, rI_44, rI_45, rI_46, rI_47, rI_115, rI_116, o_1_0, o_1_1, o_1_2, o_1_3, o_1_4, o_1_5, o_1_6, o_1_7, c_1, o_87_0, o_87_1, o_87_2, o_87_3, c_87, o_90_0, o_90_1, o_90_2, c_90, o_93_0, c_93, o_3_0, o_3_1, o_3_2, o_3_3, o_3_4, o_3_5, o_3_6, o_3_7, o_3_8, c_3, o_114_3, o_114_4, o_114_5, o_114_6, o_114_7, o_114_8, o_114_9, o_114_10, o_114_11, o_114_12, o_114_14, o_114_15, o_114_16, o_114_17, o_114_18, o_114_19, c_114, c_2, o_2_0, o_1_8, p_1_8, o_93_1, p_93_1, o_114_0, o_114_1, p_114_1, o_114_2, p_114_2, o_114_13, p_114_13, c_sh, o_sh_0, o_sh_1, o_sh_2, p_sh_1, p_sh_2, rL_it, wL_it, ↓rS, rLv, rHu, ↓rLr, ↓rHr, ↓rSh, rShR, wShR, nul_s, nul_n, bM_isPrime_13]
def xpC (v i : Nat) : Bool := decide ((3 + 2 * i) * (3 + 2 * i) ≤ v ∧ ¬ v % (3 + 2 * i) = 0)
def xpB (v : Nat) : Bool := decide (¬ v % 2 = 0) && decide (v < (3 + 2 * ff (xpC v) 22400) * (3 + 2 * ff (xpC v) 22400))
theorem X_prime {h : MH} (h1 : 101 ≤ v) (h2 : v ≤ 2000000000) : fMo_fitting 60000 h (nI v) = some (h, bI (xpB v)) := by
  have hm := Nat.mod_lt v (show 2 > 0 by omega)
  unfold xpB
  by_cases e : v % 2 = 0
  · rw [bI_f (by simp [e])]
    simp (maxSteps := 1000000) (disch := omega) only [↓o_1_0b, ↓o_1_1b, ↓o_1_2b, ↓o_1_3b, ↓o_1_4b, ↓o_1_5b, ↓o_1_6b, ↓o_1_7b, ↓c_1b, ↓o_87_0b, ↓o_87_1b, ↓o_87_2b, ↓o_87_3b, ↓c_87b, ↓o_90_0b, ↓o_90_1b, ↓o_90_2b, ↓c_90b, ↓o_93_0b, ↓c_93b, ↓o_3_0b, ↓o_3_1b, ↓o_3_2b, ↓o_3_3b, ↓o_3_4b, ↓o_3_5b, ↓o_3_6b, ↓o_3_7b, ↓o_3_8b, ↓c_3b, ↓o_114_3b, ↓o_114_4b, ↓o_114_5b, ↓o_114_6b, ↓o_114_7b, ↓o_114_8b, ↓o_114_9b, ↓o_114_10b, ↓o_114_11b, ↓o_114_12b, ↓o_114_14b, ↓o_114_15b, ↓o_114_16b, ↓o_114_17b, ↓o_114_18b, ↓o_114_19b, ↓c_114b, ↓c_2b, ↓o_2_0b, ↓o_1_8b, ↓p_1_8b, ↓o_93_1b, ↓p_93_1b, ↓o_114_0b, ↓o_114_1b, ↓p_114_1b, ↓o_114_2b, ↓p_114_2b, ↓o_114_13b, ↓p_114_13b, ↓c_shb, ↓o_sh_0b, ↓o_sh_1b, ↓o_sh_2b, ↓p_sh_1b, ↓p_sh_2b, ↓reduceIte, Nat.reduceAdd, Nat.reduceMul, Nat.reduceSub, Nat.reduceEqDiff, lit32, litL, nI_add, nI_mul, nI_sub, lN_add, lN_mul, lN_sub, lrmN, irmN, lN_div, nI_div, nzLN, nzIN, nI_l, lN_i, nI_le, nI_ge, nI_lt, nI_nlt, nIne, lNle, lNnle, lNlt, lNnlt, lNne, uA_eq, uA_ne, uA_uA, fu_eq, fu_ne, fu_fu, stA_ne, stA_8, stB_ne, stB_1, stB_o, stA_stA, stB_stB, bnd2_e, Option.bind_some, retZ0, retZ1, retZ0', retZ1', if_true, if_false, ite_true, ite_false, true_and, and_true, false_and, and_false, not_true, not_false_eq_true, rL_88, wL_88, rL_89, wL_89, rL_91, wL_91, rL_92, wL_92, rL_113, wL_113, rL_120, wL_120, rL_122, wL_122, rL_123, wL_123, rL_125, wL_125, rL_126, wL_126, rL_127, wL_127, rL_128, wL_128, rL_129, wL_129, rL_130, wL_130, rI_94, wI_94, rI_117, wI_117, rI_118, wI_118, rI_119, wI_119, rI_121, wI_121, rI_124, wI_124, rI_42, rI_43, rI_44, rI_45, rI_46, rI_47, rI_115, rI_116, o_1_0, o_1_1, o_1_2, o_1_3, o_1_4, o_1_5, o_1_6, o_1_7, c_1, o_87_0, o_87_1, o_87_2, o_87_3, c_87, o_90_0, o_90_1, o_90_2, c_90, o_93_0, c_93, o_3_0, o_3_1, o_3_2, o_3_3, o_3_4, o_3_5, o_3_6, o_3_7, o_3_8, c_3, o_114_3, o_114_4, o_114_5, o_114_6, o_114_7, o_114_8, o_114_9, o_114_10, o_114_11, o_114_12, o_114_14, o_114_15, o_114_16, o_114_17, o_114_18, o_114_19, c_114, c_2, o_2_0, o_1_8, p_1_8, o_93_1, p_93_1, o_114_0, o_114_1, p_114_1, o_114_2, p_114_2, o_114_13, p_114_13, c_sh, o_sh_0, o_sh_1, o_sh_2, p_sh_1, p_sh_2, rL_it, wL_it, ↓rS, rLv, rHu, ↓rLr, ↓rHr, ↓rSh, rShR, wShR, nul_s, nul_n, fMo_fitting, e]
  · simp only [e, not_false_eq_true, decide_true, Bool.true_and]
    have e0 : fMo_fitting 60000 h (nI v) = fMo_fitting_22 60000 h (nI v) (nI 3) := by
      simp (maxSteps := 1000000) (disch := omega) only [↓o_1_0b, ↓o_1_1b, ↓o_1_2b, ↓o_1_3b, ↓o_1_4b, ↓o_1_5b, ↓o_1_6b, ↓o_1_7b, ↓c_1b, ↓o_87_0b, ↓o_87_1b, ↓o_87_2b, ↓o_87_3b, ↓c_87b, ↓o_90_0b, ↓o_90_1b, ↓o_90_2b, ↓c_90b, ↓o_93_0b, ↓c_93b, ↓o_3_0b, ↓o_3_1b, ↓o_3_2b, ↓o_3_3b, ↓o_3_4b, ↓o_3_5b, ↓o_3_6b, ↓o_3_7b, ↓o_3_8b, ↓c_3b, ↓o_114_3b, ↓o_114_4b, ↓o_114_5b, ↓o_114_6b, ↓o_114_7b, ↓o_114_8b, ↓o_114_9b, ↓o_114_10b, ↓o_114_11b, ↓o_114_12b, ↓o_114_14b, ↓o_114_15b, ↓o_114_16b, ↓o_114_17b, ↓o_114_18b, ↓o_114_19b, ↓c_114b, ↓c_2b, ↓o_2_0b, ↓o_1_8b, ↓p_1_8b, ↓o_93_1b, ↓p_93_1b, ↓o_114_0b, ↓o_114_1b, ↓p_114_1b, ↓o_114_2b, ↓p_114_2b, ↓o_114_13b, ↓p_114_13b, ↓c_shb, ↓o_sh_0b, ↓o_sh_1b, ↓o_sh_2b, ↓p_sh_1b, ↓p_sh_2b, ↓reduceIte, Nat.reduceAdd, Nat.reduceMul, Nat.reduceSub, Nat.reduceEqDiff, lit32, litL, nI_add, nI_mul, nI_sub, lN_add, lN_mul, lN_sub, lrmN, irmN, lN_div, nI_div, nzLN, nzIN, nI_l, lN_i, nI_le, nI_ge, nI_lt, nI_nlt, nIne, lNle, lNnle, lNlt, lNnlt, lNne, uA_eq, uA_ne, uA_uA, fu_eq, fu_ne, fu_fu, stA_ne, stA_8, stB_ne, stB_1, stB_o, stA_stA, stB_stB, bnd2_e, Option.bind_some, retZ0, retZ1, retZ0', retZ1', if_true, if_false, ite_true, ite_false, true_and, and_true, false_and, and_false, not_true, not_false_eq_true, rL_88, wL_88, rL_89, wL_89, rL_91, wL_91, rL_92, wL_92, rL_113, wL_113, rL_120, wL_120, rL_122, wL_122, rL_123, wL_123, rL_125, wL_125, rL_126, wL_126, rL_127, wL_127, rL_128, wL_128, rL_129, wL_129, rL_130, wL_130, rI_94, wI_94, rI_117, wI_117, rI_118, wI_118, rI_119, wI_119, rI_121, wI_121, rI_124, wI_124, rI_42, rI_43, rI_44, rI_45, rI_46, rI_47, rI_115, rI_116, o_1_0, o_1_1, o_1_2, o_1_3, o_1_4, o_1_5, o_1_6, o_1_7, c_1, o_87_0, o_87_1, o_87_2, o_87_3, c_87, o_90_0, o_90_1, o_90_2, c_90, o_93_0, c_93, o_3_0, o_3_1, o_3_2, o_3_3, o_3_4, o_3_5, o_3_6, o_3_7, o_3_8, c_3, o_114_3, o_114_4, o_114_5, o_114_6, o_114_7, o_114_8, o_114_9, o_114_10, o_114_11, o_114_12, o_114_14, o_114_15, o_114_16, o_114_17, o_114_18, o_114_19, c_114, c_2, o_2_0, o_1_8, p_1_8, o_93_1, p_93_1, o_114_0, o_114_1, p_114_1, o_114_2, p_114_2, o_114_13, p_114_13, c_sh, o_sh_0, o_sh_1, o_sh_2, p_sh_1, p_sh_2, rL_it, wL_it, ↓rS, rLv, rHu, ↓rLr, ↓rHr, ↓rSh, rShR, wShR, nul_s, nul_n, fMo_fitting]
    rw [e0]
    refine (lp_ff (B := fun n k s => bMo_fitting_22 n k s.1 s.2.1 s.2.2) (fun i => (h, nI v, nI (3 + 2 * i))) (xpC v) 0 22400 (fun i => some (h, bI (decide (v < (3 + 2 * i) * (3 + 2 * i))))) rfl (fun i hi hc n q _ => ?_) (fun i hi hc n q _ => ?_) (fun n q _ => ?_) (by omega))
    · unfold xpC at hc
      simp only [decide_eq_true_eq] at hc
      have hb : (3 + 2 * i) * (3 + 2 * i) ≤ 44803 * 44803 := Nat.mul_le_mul (by omega) (by omega)
      have hm := Nat.mod_lt v (show 3 + 2 * i > 0 by omega)
      simp (maxSteps := 1000000) (disch := omega) only [↓o_1_0b, ↓o_1_1b, ↓o_1_2b, ↓o_1_3b, ↓o_1_4b, ↓o_1_5b, ↓o_1_6b, ↓o_1_7b, ↓c_1b, ↓o_87_0b, ↓o_87_1b, ↓o_87_2b, ↓o_87_3b, ↓c_87b, ↓o_90_0b, ↓o_90_1b, ↓o_90_2b, ↓c_90b, ↓o_93_0b, ↓c_93b, ↓o_3_0b, ↓o_3_1b, ↓o_3_2b, ↓o_3_3b, ↓o_3_4b, ↓o_3_5b, ↓o_3_6b, ↓o_3_7b, ↓o_3_8b, ↓c_3b, ↓o_114_3b, ↓o_114_4b, ↓o_114_5b, ↓o_114_6b, ↓o_114_7b, ↓o_114_8b, ↓o_114_9b, ↓o_114_10b, ↓o_114_11b, ↓o_114_12b, ↓o_114_14b, ↓o_114_15b, ↓o_114_16b, ↓o_114_17b, ↓o_114_18b, ↓o_114_19b, ↓c_114b, ↓c_2b, ↓o_2_0b, ↓o_1_8b, ↓p_1_8b, ↓o_93_1b, ↓p_93_1b, ↓o_114_0b, ↓o_114_1b, ↓p_114_1b, ↓o_114_2b, ↓p_114_2b, ↓o_114_13b, ↓p_114_13b, ↓c_shb, ↓o_sh_0b, ↓o_sh_1b, ↓o_sh_2b, ↓p_sh_1b, ↓p_sh_2b, ↓reduceIte, Nat.reduceAdd, Nat.reduceMul, Nat.reduceSub, Nat.reduceEqDiff, lit32, litL, nI_add, nI_mul, nI_sub, lN_add, lN_mul, lN_sub, lrmN, irmN, lN_div, nI_div, nzLN, nzIN, nI_l, lN_i, nI_le, nI_ge, nI_lt, nI_nlt, nIne, lNle, lNnle, lNlt, lNnlt, lNne, uA_eq, uA_ne, uA_uA, fu_eq, fu_ne, fu_fu, stA_ne, stA_8, stB_ne, stB_1, stB_o, stA_stA, stB_stB, bnd2_e, Option.bind_some, retZ0, retZ1, retZ0', retZ1', if_true, if_false, ite_true, ite_false, true_and, and_true, false_and, and_false, not_true, not_false_eq_true, rL_88, wL_88, rL_89, wL_89, rL_91, wL_91, rL_92, wL_92, rL_113, wL_113, rL_120, wL_120, rL_122, wL_122, rL_123, wL_123, rL_125, wL_125, rL_126, wL_126, rL_127, wL_127, rL_128, wL_128, rL_129, wL_129, rL_130, wL_130, rI_94, wI_94, rI_117, wI_117, rI_118, wI_118, rI_119, wI_119, rI_121, wI_121, rI_124, wI_124, rI_42, rI_43, rI_44, rI_45, rI_46, rI_47, rI_115, rI_116, o_1_0, o_1_1, o_1_2, o_1_3, o_1_4, o_1_5, o_1_6, o_1_7, c_1, o_87_0, o_87_1, o_87_2, o_87_3, c_87, o_90_0, o_90_1, o_90_2, c_90, o_93_0, c_93, o_3_0, o_3_1, o_3_2, o_3_3, o_3_4, o_3_5, o_3_6, o_3_7, o_3_8, c_3, o_114_3, o_114_4, o_114_5, o_114_6, o_114_7, o_114_8, o_114_9, o_114_10, o_114_11, o_114_12, o_114_14, o_114_15, o_114_16, o_114_17, o_114_18, o_114_19, c_114, c_2, o_2_0, o_1_8, p_1_8, o_93_1, p_93_1, o_114_0, o_114_1, p_114_1, o_114_2, p_114_2, o_114_13, p_114_13, c_sh, o_sh_0, o_sh_1, o_sh_2, p_sh_1, p_sh_2, rL_it, wL_it, ↓rS, rLv, rHu, ↓rLr, ↓rHr, ↓rSh, rShR, wShR, nul_s, nul_n, bMo_fitting_22, hc.1, hc.2]
      rfl
    · have hb : (3 + 2 * i) * (3 + 2 * i) ≤ 44803 * 44803 := Nat.mul_le_mul (by omega) (by omega)
      unfold xpC at hc
      simp only [decide_eq_false_iff_not] at hc
      by_cases c : v < (3 + 2 * i) * (3 + 2 * i)
      · rw [bI_t (by simpa using c)]
        simp (maxSteps := 1000000) (disch := omega) only [↓o_1_0b, ↓o_1_1b, ↓o_1_2b, ↓o_1_3b, ↓o_1_4b, ↓o_1_5b, ↓o_1_6b, ↓o_1_7b, ↓c_1b, ↓o_87_0b, ↓o_87_1b, ↓o_87_2b, ↓o_87_3b, ↓c_87b, ↓o_90_0b, ↓o_90_1b, ↓o_90_2b, ↓c_90b, ↓o_93_0b, ↓c_93b, ↓o_3_0b, ↓o_3_1b, ↓o_3_2b, ↓o_3_3b, ↓o_3_4b, ↓o_3_5b, ↓o_3_6b, ↓o_3_7b, ↓o_3_8b, ↓c_3b, ↓o_114_3b, ↓o_114_4b, ↓o_114_5b, ↓o_114_6b, ↓o_114_7b, ↓o_114_8b, ↓o_114_9b, ↓o_114_10b, ↓o_114_11b, ↓o_114_12b, ↓o_114_14b, ↓o_114_15b, ↓o_114_16b, ↓o_114_17b, ↓o_114_18b, ↓o_114_19b, ↓c_114b, ↓c_2b, ↓o_2_0b, ↓o_1_8b, ↓p_1_8b, ↓o_93_1b, ↓p_93_1b, ↓o_114_0b, ↓o_114_1b, ↓p_114_1b, ↓o_114_2b, ↓p_114_2b, ↓o_114_13b, ↓p_114_13b, ↓c_shb, ↓o_sh_0b, ↓o_sh_1b, ↓o_sh_2b, ↓p_sh_1b, ↓p_sh_2b, ↓reduceIte, Nat.reduceAdd, Nat.reduceMul, Nat.reduceSub, Nat.reduceEqDiff, lit32, litL, nI_add, nI_mul, nI_sub, lN_add, lN_mul, lN_sub, lrmN, irmN, lN_div, nI_div, nzLN, nzIN, nI_l, lN_i, nI_le, nI_ge, nI_lt, nI_nlt, nIne, lNle, lNnle, lNlt, lNnlt, lNne, uA_eq, uA_ne, uA_uA, fu_eq, fu_ne, fu_fu, stA_ne, stA_8, stB_ne, stB_1, stB_o, stA_stA, stB_stB, bnd2_e, Option.bind_some, retZ0, retZ1, retZ0', retZ1', if_true, if_false, ite_true, ite_false, true_and, and_true, false_and, and_false, not_true, not_false_eq_true, rL_88, wL_88, rL_89, wL_89, rL_91, wL_91, rL_92, wL_92, rL_113, wL_113, rL_120, wL_120, rL_122, wL_122, rL_123, wL_123, rL_125, wL_125, rL_126, wL_126, rL_127, wL_127, rL_128, wL_128, rL_129, wL_129, rL_130, wL_130, rI_94, wI_94, rI_117, wI_117, rI_118, wI_118, rI_119, wI_119, rI_121, wI_121, rI_124, wI_124, rI_42, rI_43, rI_44, rI_45, rI_46, rI_47, rI_115, rI_116, o_1_0, o_1_1, o_1_2, o_1_3, o_1_4, o_1_5, o_1_6, o_1_7, c_1, o_87_0, o_87_1, o_87_2, o_87_3, c_87, o_90_0, o_90_1, o_90_2, c_90, o_93_0, c_93, o_3_0, o_3_1, o_3_2, o_3_3, o_3_4, o_3_5, o_3_6, o_3_7, o_3_8, c_3, o_114_3, o_114_4, o_114_5, o_114_6, o_114_7, o_114_8, o_114_9, o_114_10, o_114_11, o_114_12, o_114_14, o_114_15, o_114_16, o_114_17, o_114_18, o_114_19, c_114, c_2, o_2_0, o_1_8, p_1_8, o_93_1, p_93_1, o_114_0, o_114_1, p_114_1, o_114_2, p_114_2, o_114_13, p_114_13, c_sh, o_sh_0, o_sh_1, o_sh_2, p_sh_1, p_sh_2, rL_it, wL_it, ↓rS, rLv, rHu, ↓rLr, ↓rHr, ↓rSh, rShR, wShR, nul_s, nul_n, bMo_fitting_22]
      · have c2 : v % (3 + 2 * i) = 0 := by
          by_cases z : v % (3 + 2 * i) = 0
          · exact z
          · exact absurd ⟨by omega, z⟩ hc
        rw [bI_f (by simpa using c)]
        simp (maxSteps := 1000000) (disch := omega) only [↓o_1_0b, ↓o_1_1b, ↓o_1_2b, ↓o_1_3b, ↓o_1_4b, ↓o_1_5b, ↓o_1_6b, ↓o_1_7b, ↓c_1b, ↓o_87_0b, ↓o_87_1b, ↓o_87_2b, ↓o_87_3b, ↓c_87b, ↓o_90_0b, ↓o_90_1b, ↓o_90_2b, ↓c_90b, ↓o_93_0b, ↓c_93b, ↓o_3_0b, ↓o_3_1b, ↓o_3_2b, ↓o_3_3b, ↓o_3_4b, ↓o_3_5b, ↓o_3_6b, ↓o_3_7b, ↓o_3_8b, ↓c_3b, ↓o_114_3b, ↓o_114_4b, ↓o_114_5b, ↓o_114_6b, ↓o_114_7b, ↓o_114_8b, ↓o_114_9b, ↓o_114_10b, ↓o_114_11b, ↓o_114_12b, ↓o_114_14b, ↓o_114_15b, ↓o_114_16b, ↓o_114_17b, ↓o_114_18b, ↓o_114_19b, ↓c_114b, ↓c_2b, ↓o_2_0b, ↓o_1_8b, ↓p_1_8b, ↓o_93_1b, ↓p_93_1b, ↓o_114_0b, ↓o_114_1b, ↓p_114_1b, ↓o_114_2b, ↓p_114_2b, ↓o_114_13b, ↓p_114_13b, ↓c_shb, ↓o_sh_0b, ↓o_sh_1b, ↓o_sh_2b, ↓p_sh_1b, ↓p_sh_2b, ↓reduceIte, Nat.reduceAdd, Nat.reduceMul, Nat.reduceSub, Nat.reduceEqDiff, lit32, litL, nI_add, nI_mul, nI_sub, lN_add, lN_mul, lN_sub, lrmN, irmN, lN_div, nI_div, nzLN, nzIN, nI_l, lN_i, nI_le, nI_ge, nI_lt, nI_nlt, nIne, lNle, lNnle, lNlt, lNnlt, lNne, uA_eq, uA_ne, uA_uA, fu_eq, fu_ne, fu_fu, stA_ne, stA_8, stB_ne, stB_1, stB_o, stA_stA, stB_stB, bnd2_e, Option.bind_some, retZ0, retZ1, retZ0', retZ1', if_true, if_false, ite_true, ite_false, true_and, and_true, false_and, and_false, not_true, not_false_eq_true, rL_88, wL_88, rL_89, wL_89, rL_91, wL_91, rL_92, wL_92, rL_113, wL_113, rL_120, wL_120, rL_122, wL_122, rL_123, wL_123, rL_125, wL_125, rL_126, wL_126, rL_127, wL_127, rL_128, wL_128, rL_129, wL_129, rL_130, wL_130, rI_94, wI_94, rI_117, wI_117, rI_118, wI_118, rI_119, wI_119, rI_121, wI_121, rI_124, wI_124, rI_42, rI_43, rI_44, rI_45, rI_46, rI_47, rI_115, rI_116, o_1_0, o_1_1, o_1_2, o_1_3, o_1_4, o_1_5, o_1_6, o_1_7, c_1, o_87_0, o_87_1, o_87_2, o_87_3, c_87, o_90_0, o_90_1, o_90_2, c_90, o_93_0, c_93, o_3_0, o_3_1, o_3_2, o_3_3, o_3_4, o_3_5, o_3_6, o_3_7, o_3_8, c_3, o_114_3, o_114_4, o_114_5, o_114_6, o_114_7, o_114_8, o_114_9, o_114_10, o_114_11, o_114_12, o_114_14, o_114_15, o_114_16, o_114_17, o_114_18, o_114_19, c_114, c_2, o_2_0, o_1_8, p_1_8, o_93_1, p_93_1, o_114_0, o_114_1, p_114_1, o_114_2, p_114_2, o_114_13, p_114_13, c_sh, o_sh_0, o_sh_1, o_sh_2, p_sh_1, p_sh_2, rL_it, wL_it, ↓rS, rLv, rHu, ↓rLr, ↓rHr, ↓rSh, rShR, wShR, nul_s, nul_n, bMo_fitting_22, c2]
    · rw [bI_t (by simp; omega)]
      simp (maxSteps := 1000000) (disch := omega) only [↓o_1_0b, ↓o_1_1b, ↓o_1_2b, ↓o_1_3b, ↓o_1_4b, ↓o_1_5b, ↓o_1_6b, ↓o_1_7b, ↓c_1b, ↓o_87_0b, ↓o_87_1b, ↓o_87_2b, ↓o_87_3b, ↓c_87b, ↓o_90_0b, ↓o_90_1b, ↓o_90_2b, ↓c_90b, ↓o_93_0b, ↓c_93b, ↓o_3_0b, ↓o_3_1b, ↓o_3_2b, ↓o_3_3b, ↓o_3_4b, ↓o_3_5b, ↓o_3_6b, ↓o_3_7b, ↓o_3_8b, ↓c_3b, ↓o_114_3b, ↓o_114_4b, ↓o_114_5b, ↓o_114_6b, ↓o_114_7b, ↓o_114_8b, ↓o_114_9b, ↓o_114_10b, ↓o_114_11b, ↓o_114_12b, ↓o_114_14b, ↓o_114_15b, ↓o_114_16b, ↓o_114_17b, ↓o_114_18b, ↓o_114_19b, ↓c_114b, ↓c_2b, ↓o_2_0b, ↓o_1_8b, ↓p_1_8b, ↓o_93_1b, ↓p_93_1b, ↓o_114_0b, ↓o_114_1b, ↓p_114_1b, ↓o_114_2b, ↓p_114_2b, ↓o_114_13b, ↓p_114_13b, ↓c_shb, ↓o_sh_0b, ↓o_sh_1b, ↓o_sh_2b, ↓p_sh_1b, ↓p_sh_2b, ↓reduceIte, Nat.reduceAdd, Nat.reduceMul, Nat.reduceSub, Nat.reduceEqDiff, lit32, litL, nI_add, nI_mul, nI_sub, lN_add, lN_mul, lN_sub, lrmN, irmN, lN_div, nI_div, nzLN, nzIN, nI_l, lN_i, nI_le, nI_ge, nI_lt, nI_nlt, nIne, lNle, lNnle, lNlt, lNnlt, lNne, uA_eq, uA_ne, uA_uA, fu_eq, fu_ne, fu_fu, stA_ne, stA_8, stB_ne, stB_1, stB_o, stA_stA, stB_stB, bnd2_e, Option.bind_some, retZ0, retZ1, retZ0', retZ1', if_true, if_false, ite_true, ite_false, true_and, and_true, false_and, and_false, not_true, not_false_eq_true, rL_88, wL_88, rL_89, wL_89, rL_91, wL_91, rL_92, wL_92, rL_113, wL_113, rL_120, wL_120, rL_122, wL_122, rL_123, wL_123, rL_125, wL_125, rL_126, wL_126, rL_127, wL_127, rL_128, wL_128, rL_129, wL_129, rL_130, wL_130, rI_94, wI_94, rI_117, wI_117, rI_118, wI_118, rI_119, wI_119, rI_121, wI_121, rI_124, wI_124, rI_42, rI_43, rI_44, rI_45, rI_46, rI_47, rI_115, rI_116, o_1_0, o_1_1, o_1_2, o_1_3, o_1_4, o_1_5, o_1_6, o_1_7, c_1, o_87_0, o_87_1, o_87_2, o_87_3, c_87, o_90_0, o_90_1, o_90_2, c_90, o_93_0, c_93, o_3_0, o_3_1, o_3_2, o_3_3, o_3_4, o_3_5, o_3_6, o_3_7, o_3_8, c_3, o_114_3, o_114_4, o_114_5, o_114_6, o_114_7, o_114_8, o_114_9, o_114_10, o_114_11, o_114_12, o_114_14, o_114_15, o_114_16, o_114_17, o_114_18, o_114_19, c_114, c_2, o_2_0, o_1_8, p_1_8, o_93_1, p_93_1, o_114_0, o_114_1, p_114_1, o_114_2, p_114_2, o_114_13, p_114_13, c_sh, o_sh_0, o_sh_1, o_sh_2, p_sh_1, p_sh_2, rL_it, wL_it, ↓rS, rLv, rHu, ↓rLr, ↓rHr, ↓rSh, rShR, wShR, nul_s, nul_n, bMo_fitting_22]
theorem mpB_iff (h2 : v ≤ 2000000000) : mpB v = true ↔ ∀ j, (j + 2) * (j + 2) ≤ v → ¬ v % (j + 2) = 0 := by
  unfold mpB
  have k1 := ff_le (mpT v) 44800
  constructor
  · intro hb j hj
    have hl : v < (ff (mpT v) 44800 + 2) * (ff (mpT v) 44800 + 2) := by
      by_cases e : ff (mpT v) 44800 < 44800
      · have hf := ff_f e
        generalize ff (mpT v) 44800 = i at *
        unfold mpT at hf
        rw [hb, Bool.and_true] at hf
        simpa using hf
      · rw [show ff (mpT v) 44800 = 44800 by omega]
        omega
    have hlt : j < ff (mpT v) 44800 := by
      by_cases z : j < ff (mpT v) 44800
      · exact z
      · have : (ff (mpT v) 44800 + 2) * (ff (mpT v) 44800 + 2) ≤ (j + 2) * (j + 2) := Nat.mul_le_mul (by omega) (by omega)
        omega
    have := aB_iff.mp hb j hlt
    unfold mpC at this
    simpa using this
  · intro hall
    refine aB_iff.mpr fun j hj => ?_
    have ht := ff_t hj
    unfold mpT at ht
    simp only [Bool.and_eq_true, decide_eq_true_eq] at ht
    unfold mpC
    simpa using hall j ht.1
theorem xpB_iff (h2 : v ≤ 2000000000) : xpB v = true ↔ ¬ v % 2 = 0 ∧ ∀ i, (3 + 2 * i) * (3 + 2 * i) ≤ v → ¬ v % (3 + 2 * i) = 0 := by
  unfold xpB
  simp only [Bool.and_eq_true, decide_eq_true_eq]
  have k1 := ff_le (xpC v) 22400
  constructor
  · rintro ⟨a, b⟩
    refine ⟨a, fun i hi => ?_⟩
    have hlt : i < ff (xpC v) 22400 := by
      by_cases z : i < ff (xpC v) 22400
      · exact z
      · have : (3 + 2 * ff (xpC v) 22400) * (3 + 2 * ff (xpC v) 22400) ≤ (3 + 2 * i) * (3 + 2 * i) := Nat.mul_le_mul (by omega) (by omega)
        omega
    have := ff_t hlt
    unfold xpC at this
    simp only [decide_eq_true_eq] at this
    exact this.2
  · rintro ⟨a, b⟩
    refine ⟨a, ?_⟩
    by_cases e : ff (xpC v) 22400 < 22400
    · have hf := ff_f e
      generalize ff (xpC v) 22400 = i at *
      unfold xpC at hf
      simp only [decide_eq_false_iff_not] at hf
      by_cases z : (3 + 2 * i) * (3 + 2 * i) ≤ v
      · exact absurd ⟨z, b i z⟩ hf
      · omega
    · rw [show ff (xpC v) 22400 = 22400 by omega]
      omega
theorem pr_same (h1 : 101 ≤ v) (h2 : v ≤ 2000000000) : xpB v = mpB v := by
  apply Bool.eq_iff_iff.mpr
  rw [mpB_iff h2, xpB_iff h2]
  constructor
  · rintro ⟨a, b⟩ j hj
    by_cases e : j % 2 = 0
    · intro z
      have d1 : (j + 2) ∣ v := Nat.dvd_of_mod_eq_zero z
      have d2 : 2 ∣ j + 2 := Nat.dvd_of_mod_eq_zero (by omega)
      exact a (Nat.mod_eq_zero_of_dvd (Nat.dvd_trans d2 d1))
    · have := b ((j - 1) / 2)
      rw [show 3 + 2 * ((j - 1) / 2) = j + 2 by omega] at this
      exact this hj
  · intro h
    refine ⟨h 0 (by omega), fun i hi => ?_⟩
    have := h (1 + 2 * i)
    rw [show 1 + 2 * i + 2 = 3 + 2 * i by omega] at this
    exact this hi
/-- the number modulo which both sides reckon -/
theorem pr_all (x : Int32) : ∃ P : Nat, 101 ≤ P ∧ P ≤ 2000000000 ∧ (∀ h a, fMo_init 60000 h a x = (pf h a [3] 0 (.long (lN P))).bind fun h4 => some h4) ∧ ∀ h, fM_init_169 60000 h 114 x = fM_init_197 60000 h (nI P) 114 114 := by
  by_cases hx : x.toInt < 101 ∨ 2000000000 < x.toInt
  · refine ⟨998244353, by omega, by omega, fun h a => ?_, fun h => ?_⟩
    · have e : fMo_fitting 60000 h x = some (h, nI 0) := by
        unfold fMo_fitting
        by_cases c : x < 101
        · rw [if_pos c]; exact retZ0 h
        · rw [if_neg c, if_pos]
          · exact retZ0 h
          · show nI 2000000000 < x
            have c2 : ¬ x.toInt < 101 := fun z => c (show x < nI 101 from toI_lt (by omega) z)
            exact toI_gt' (by omega) (by omega)
      unfold fMo_init
      rw [e, bnd2_e, if_pos (show nI 0 = 0 from rfl)]
      rfl
    · have e : fM_in h x.toInt64 (lN 101) (lN 2000000000) = some (h, nI 0) := M_in_n (by omega) (by omega) hx
      unfold fM_init_169
      rw [show (101 : Int64) = lN 101 from rfl, show (2000000000 : Int64) = lN 2000000000 from rfl, e, bnd2_e, if_pos (show nI 0 = 0 from rfl)]
      rfl
  · obtain ⟨v, hv, rfl⟩ := nI_ofI (x := x) (by omega)
    rw [nI_toInt hv] at hx
    have h1 : 101 ≤ v := by omega
    have h2 : v ≤ 2000000000 := by omega
    have ei : ∀ h, fM_in h (nI v).toInt64 (lN 101) (lN 2000000000) = some (h, nI 1) := fun h => by
      rw [nI_l hv]
      exact M_in_y (by omega) h1 h2
    cases hB : mpB v with
    | true =>
      refine ⟨v, h1, h2, fun h a => ?_, fun h => ?_⟩
      · unfold fMo_init
        rw [X_prime h1 h2, pr_same h1 h2, hB, show bI true = nI 1 from rfl, bnd2_e, if_neg (by decide), nI_l hv]
      · unfold fM_init_169
        rw [show (101 : Int64) = lN 101 from rfl, show (2000000000 : Int64) = lN 2000000000 from rfl, ei, bnd2_e, if_neg (by decide), M_prime h1 h2, hB, show bI true = nI 1 from rfl, bnd2_e, if_neg (by decide)]
    | false =>
      refine ⟨998244353, by omega, by omega, fun h a => ?_, fun h => ?_⟩
      · unfold fMo_init
        rw [X_prime h1 h2, pr_same h1 h2, hB, show bI false = nI 0 from rfl, bnd2_e, if_pos (show nI 0 = 0 from rfl)]
        rfl
      · unfold fM_init_169
        rw [show (101 : Int64) = lN 101 from rfl, show (2000000000 : Int64) = lN 2000000000 from rfl, ei, bnd2_e, if_neg (by decide), M_prime h1 h2, hB, show bI false = nI 0 from rfl, bnd2_e, if_pos (show nI 0 = 0 from rfl)]
        rfl
end PR

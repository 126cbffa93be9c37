/-! the stages of a table in the cells behind -/
def cN (N : Nat) (f : Nat → Nat) : MC := cI (fa N (fun q => nI (f q)))
def c7 (s m : Nat) : MC := cO 7 [.int (nI s), .ref (131 + m)]
theorem ix {s i j : Nat} (hi : i < s) (hj : j < s) : i * s + j < s * s := by
  have h := Nat.mul_le_mul_right s (show i + 1 ≤ s by omega)
  rw [Nat.add_mul, Nat.one_mul] at h
  omega
theorem ix_d {s i j : Nat} (hj : j < s) : (i * s + j) / s = i := by
  rw [Nat.mul_comm, Nat.mul_add_div (by omega), Nat.div_eq_of_lt hj, Nat.add_zero]
theorem ix_m {s i j : Nat} (hj : j < s) : (i * s + j) % s = j := by
  rw [Nat.mul_comm, Nat.mul_add_mod, Nat.mod_eq_of_lt hj]
theorem sq_b {s : Nat} (h : s ≤ 8) : s * s ≤ 64 := Nat.mul_le_mul h h
section TK
variable {P : Nat} {I : Nat → Nat → Int32} {L : Nat → Nat → Int64} {R : Nat → Option Nat} {tl : MH} {k m s N : Nat} {f : Nat → Nat} {α : Type}
theorem tl_lt {c : MC} (h : tl[k]? = some c) : k < tl.length := (List.getElem?_eq_some_iff.mp h).1
theorem tk_I {F : Int32 → Option α} (h : tl[k]? = some (c7 s m)) : (gfI (hp I L R tl) (131 + k) [7] 0).bind F = F (nI s) := by
  unfold gfI gf
  rw [hp_tail, h]
  rfl
theorem tk_R {F : Nat → Option α} (h : tl[k]? = some (c7 s m)) : (gfR (hp I L R tl) (131 + k) [7] 1).bind F = F (131 + m) := by
  unfold gfR gf
  rw [hp_tail, h]
  rfl
theorem tk_c {F : Unit → Option α} (h : tl[k]? = some (c7 s m)) : (chk (hp I L R tl) (131 + k) 7).bind F = F () := by
  unfold chk
  rw [hp_tail, h]
  rfl
theorem tk_r {j : Nat} (h : tl[m]? = some (cN N f)) (hj : j < N) (hN : N < 2 ^ 31) : rdI (hp I L R tl) (131 + m) (nI j) = some (nI (f j)) := by
  unfold rdI
  rw [hp_tail, h]
  simp only [cN, nI_pos (show j < 2 ^ 31 by omega), if_false, nI_clamp (show j < 2 ^ 31 by omega), fa_get hj]
theorem hp_tset {c : MC} : (hp I L R tl).set (131 + m) c = hp I L R (tl.set m c) := pr_tset
theorem tk_w {j v : Nat} (h : tl[m]? = some (cN N f)) (hj : j < N) (hN : N < 2 ^ 31) : wrI (hp I L R tl) (131 + m) (nI j) (nI v) = some (hp I L R (tl.set m (cN N (fu f j v)))) := by
  unfold wrI
  rw [hp_tail, h]
  simp only [cN, nI_clamp (show j < 2 ^ 31 by omega), fa_len]
  rw [if_neg (fun q => q.elim (nI_pos (show j < 2 ^ 31 by omega)) (by omega)), fa_set, hp_tset]
  congr 5
  funext i
  unfold fu
  split <;> rfl
theorem tk_l (h : tl[m]? = some (cN N f)) : lenA (hp I L R tl) (131 + m) = some (nI N) := by
  unfold lenA
  rw [hp_tail, h]
  simp only [cN, fa_len]
  rfl
theorem X_a {i j : Nat} (h : tl[k]? = some (c7 s m)) (hr : tl[m]? = some (cN (s * s + s) f)) (hs : s ≤ 8) (hi : i < s) (hj : j < s) (hf : f (i * s + j) < 2 ^ 31) : fSg_a (hp I L R tl) (131 + k) (nI i) (nI j) = some (hp I L R tl, lN (f (i * s + j))) := by
  have h1 := ix hi hj
  have h2 := sq_b hs
  simp (maxSteps := 1000000) (disch := omega) only [↓o_1_0b, ↓o_1_1b, ↓o_1_2b, ↓o_1_3b, ↓o_1_4b, ↓o_1_5b, ↓o_1_6b, ↓o_1_7b, ↓c_1b, ↓o_87_0b, ↓o_87_1b, ↓o_87_2b, ↓o_87_3b, ↓c_87b, ↓o_90_0b, ↓o_90_1b, ↓o_90_2b, ↓c_90b, ↓o_93_0b, ↓c_93b, ↓o_3_0b, ↓o_3_1b, ↓o_3_2b, ↓o_3_3b, ↓o_3_4b, ↓o_3_5b, ↓o_3_6b, ↓o_3_7b, ↓o_3_8b, ↓c_3b, ↓o_114_3b, ↓o_114_4b, ↓o_114_5b, ↓o_114_6b, ↓o_114_7b, ↓o_114_8b, ↓o_114_9b, ↓o_114_10b, ↓o_114_11b, ↓o_114_12b, ↓o_114_14b, ↓o_114_15b, ↓o_114_16b, ↓o_114_17b, ↓o_114_18b, ↓o_114_19b, ↓c_114b, ↓c_2b, ↓o_2_0b, ↓o_1_8b, ↓p_1_8b, ↓o_93_1b, ↓p_93_1b, ↓o_114_0b, ↓o_114_1b, ↓p_114_1b, ↓o_114_2b, ↓p_114_2b, ↓o_114_13b, ↓p_114_13b, ↓c_shb, ↓o_sh_0b, ↓o_sh_1b, ↓o_sh_2b, ↓p_sh_1b, ↓p_sh_2b, ↓reduceIte, Nat.reduceAdd, Nat.reduceMul, Nat.reduceSub, Nat.reduceEqDiff, lit32, litL, nI_add, nI_mul, nI_sub, lN_add, lN_mul, lN_sub, lrmN, irmN, lN_div, nI_div, nzLN, nzIN, nI_l, lN_i, nI_le, nI_ge, nI_lt, nI_nlt, nIne, lNle, lNnle, lNlt, lNnlt, lNne, uA_eq, uA_ne, uA_uA, fu_eq, fu_ne, fu_fu, stA_ne, stA_8, stB_ne, stB_1, stB_o, stA_stA, stB_stB, bnd2_e, Option.bind_some, retZ0, retZ1, retZ0', retZ1', if_true, if_false, ite_true, ite_false, true_and, and_true, false_and, and_false, not_true, not_false_eq_true, rL_88, wL_88, rL_89, wL_89, rL_91, wL_91, rL_92, wL_92, rL_113, wL_113, rL_120, wL_120, rL_122, wL_122, rL_123, wL_123, rL_125, wL_125, rL_126, wL_126, rL_127, wL_127, rL_128, wL_128, rL_129, wL_129, rL_130, wL_130, rI_94, wI_94, rI_117, wI_117, rI_118, wI_118, rI_119, wI_119, rI_121, wI_121, rI_124, wI_124, rI_42, rI_43, rI_44, rI_45, rI_46, rI_47, rI_115, rI_116, o_1_0, o_1_1, o_1_2, o_1_3, o_1_4, o_1_5, o_1_6, o_1_7, c_1, o_87_0, o_87_1, o_87_2, o_87_3, c_87, o_90_0, o_90_1, o_90_2, c_90, o_93_0, c_93, o_3_0, o_3_1, o_3_2, o_3_3, o_3_4, o_3_5, o_3_6, o_3_7, o_3_8, c_3, o_114_3, o_114_4, o_114_5, o_114_6, o_114_7, o_114_8, o_114_9, o_114_10, o_114_11, o_114_12, o_114_14, o_114_15, o_114_16, o_114_17, o_114_18, o_114_19, c_114, c_2, o_2_0, o_1_8, p_1_8, o_93_1, p_93_1, o_114_0, o_114_1, p_114_1, o_114_2, p_114_2, o_114_13, p_114_13, c_sh, o_sh_0, o_sh_1, o_sh_2, p_sh_1, p_sh_2, rL_it, wL_it, ↓rS, rLv, rHu, ↓rLr, ↓rHr, ↓rSh, rShR, wShR, nul_s, nul_n, fSg_a, ↓tk_I h, ↓tk_R h, ↓tk_c h, tk_r hr, tk_w hr]
theorem X_b {j : Nat} (h : tl[k]? = some (c7 s m)) (hr : tl[m]? = some (cN (s * s + s) f)) (hs : s ≤ 8) (hj : j < s) (hf : f (s * s + j) < 2 ^ 31) : fSg_b (hp I L R tl) (131 + k) (nI j) = some (hp I L R tl, lN (f (s * s + j))) := by
  have h2 := sq_b hs
  simp (maxSteps := 1000000) (disch := omega) only [↓o_1_0b, ↓o_1_1b, ↓o_1_2b, ↓o_1_3b, ↓o_1_4b, ↓o_1_5b, ↓o_1_6b, ↓o_1_7b, ↓c_1b, ↓o_87_0b, ↓o_87_1b, ↓o_87_2b, ↓o_87_3b, ↓c_87b, ↓o_90_0b, ↓o_90_1b, ↓o_90_2b, ↓c_90b, ↓o_93_0b, ↓c_93b, ↓o_3_0b, ↓o_3_1b, ↓o_3_2b, ↓o_3_3b, ↓o_3_4b, ↓o_3_5b, ↓o_3_6b, ↓o_3_7b, ↓o_3_8b, ↓c_3b, ↓o_114_3b, ↓o_114_4b, ↓o_114_5b, ↓o_114_6b, ↓o_114_7b, ↓o_114_8b, ↓o_114_9b, ↓o_114_10b, ↓o_114_11b, ↓o_114_12b, ↓o_114_14b, ↓o_114_15b, ↓o_114_16b, ↓o_114_17b, ↓o_114_18b, ↓o_114_19b, ↓c_114b, ↓c_2b, ↓o_2_0b, ↓o_1_8b, ↓p_1_8b, ↓o_93_1b, ↓p_93_1b, ↓o_114_0b, ↓o_114_1b, ↓p_114_1b, ↓o_114_2b, ↓p_114_2b, ↓o_114_13b, ↓p_114_13b, ↓c_shb, ↓o_sh_0b, ↓o_sh_1b, ↓o_sh_2b, ↓p_sh_1b, ↓p_sh_2b, ↓reduceIte, Nat.reduceAdd, Nat.reduceMul, Nat.reduceSub, Nat.reduceEqDiff, lit32, litL, nI_add, nI_mul, nI_sub, lN_add, lN_mul, lN_sub, lrmN, irmN, lN_div, nI_div, nzLN, nzIN, nI_l, lN_i, nI_le, nI_ge, nI_lt, nI_nlt, nIne, lNle, lNnle, lNlt, lNnlt, lNne, uA_eq, uA_ne, uA_uA, fu_eq, fu_ne, fu_fu, stA_ne, stA_8, stB_ne, stB_1, stB_o, stA_stA, stB_stB, bnd2_e, Option.bind_some, retZ0, retZ1, retZ0', retZ1', if_true, if_false, ite_true, ite_false, true_and, and_true, false_and, and_false, not_true, not_false_eq_true, rL_88, wL_88, rL_89, wL_89, rL_91, wL_91, rL_92, wL_92, rL_113, wL_113, rL_120, wL_120, rL_122, wL_122, rL_123, wL_123, rL_125, wL_125, rL_126, wL_126, rL_127, wL_127, rL_128, wL_128, rL_129, wL_129, rL_130, wL_130, rI_94, wI_94, rI_117, wI_117, rI_118, wI_118, rI_119, wI_119, rI_121, wI_121, rI_124, wI_124, rI_42, rI_43, rI_44, rI_45, rI_46, rI_47, rI_115, rI_116, o_1_0, o_1_1, o_1_2, o_1_3, o_1_4, o_1_5, o_1_6, o_1_7, c_1, o_87_0, o_87_1, o_87_2, o_87_3, c_87, o_90_0, o_90_1, o_90_2, c_90, o_93_0, c_93, o_3_0, o_3_1, o_3_2, o_3_3, o_3_4, o_3_5, o_3_6, o_3_7, o_3_8, c_3, o_114_3, o_114_4, o_114_5, o_114_6, o_114_7, o_114_8, o_114_9, o_114_10, o_114_11, o_114_12, o_114_14, o_114_15, o_114_16, o_114_17, o_114_18, o_114_19, c_114, c_2, o_2_0, o_1_8, p_1_8, o_93_1, p_93_1, o_114_0, o_114_1, p_114_1, o_114_2, p_114_2, o_114_13, p_114_13, c_sh, o_sh_0, o_sh_1, o_sh_2, p_sh_1, p_sh_2, rL_it, wL_it, ↓rS, rLv, rHu, ↓rLr, ↓rHr, ↓rSh, rShR, wShR, nul_s, nul_n, fSg_b, ↓tk_I h, ↓tk_R h, ↓tk_c h, tk_r hr, tk_w hr]
theorem X_putA {i j v : Nat} (h : tl[k]? = some (c7 s m)) (hr : tl[m]? = some (cN (s * s + s) f)) (hs : s ≤ 8) (hi : i < s) (hj : j < s) : fSg_putA (hp I L R tl) (131 + k) (nI i) (nI j) (lN v) = some (hp I L R (tl.set m (cN (s * s + s) (fu f (i * s + j) v)))) := by
  have h1 := ix hi hj
  have h2 := sq_b hs
  simp (maxSteps := 1000000) (disch := omega) only [↓o_1_0b, ↓o_1_1b, ↓o_1_2b, ↓o_1_3b, ↓o_1_4b, ↓o_1_5b, ↓o_1_6b, ↓o_1_7b, ↓c_1b, ↓o_87_0b, ↓o_87_1b, ↓o_87_2b, ↓o_87_3b, ↓c_87b, ↓o_90_0b, ↓o_90_1b, ↓o_90_2b, ↓c_90b, ↓o_93_0b, ↓c_93b, ↓o_3_0b, ↓o_3_1b, ↓o_3_2b, ↓o_3_3b, ↓o_3_4b, ↓o_3_5b, ↓o_3_6b, ↓o_3_7b, ↓o_3_8b, ↓c_3b, ↓o_114_3b, ↓o_114_4b, ↓o_114_5b, ↓o_114_6b, ↓o_114_7b, ↓o_114_8b, ↓o_114_9b, ↓o_114_10b, ↓o_114_11b, ↓o_114_12b, ↓o_114_14b, ↓o_114_15b, ↓o_114_16b, ↓o_114_17b, ↓o_114_18b, ↓o_114_19b, ↓c_114b, ↓c_2b, ↓o_2_0b, ↓o_1_8b, ↓p_1_8b, ↓o_93_1b, ↓p_93_1b, ↓o_114_0b, ↓o_114_1b, ↓p_114_1b, ↓o_114_2b, ↓p_114_2b, ↓o_114_13b, ↓p_114_13b, ↓c_shb, ↓o_sh_0b, ↓o_sh_1b, ↓o_sh_2b, ↓p_sh_1b, ↓p_sh_2b, ↓reduceIte, Nat.reduceAdd, Nat.reduceMul, Nat.reduceSub, Nat.reduceEqDiff, lit32, litL, nI_add, nI_mul, nI_sub, lN_add, lN_mul, lN_sub, lrmN, irmN, lN_div, nI_div, nzLN, nzIN, nI_l, lN_i, nI_le, nI_ge, nI_lt, nI_nlt, nIne, lNle, lNnle, lNlt, lNnlt, lNne, uA_eq, uA_ne, uA_uA, fu_eq, fu_ne, fu_fu, stA_ne, stA_8, stB_ne, stB_1, stB_o, stA_stA, stB_stB, bnd2_e, Option.bind_some, retZ0, retZ1, retZ0', retZ1', if_true, if_false, ite_true, ite_false, true_and, and_true, false_and, and_false, not_true, not_false_eq_true, rL_88, wL_88, rL_89, wL_89, rL_91, wL_91, rL_92, wL_92, rL_113, wL_113, rL_120, wL_120, rL_122, wL_122, rL_123, wL_123, rL_125, wL_125, rL_126, wL_126, rL_127, wL_127, rL_128, wL_128, rL_129, wL_129, rL_130, wL_130, rI_94, wI_94, rI_117, wI_117, rI_118, wI_118, rI_119, wI_119, rI_121, wI_121, rI_124, wI_124, rI_42, rI_43, rI_44, rI_45, rI_46, rI_47, rI_115, rI_116, o_1_0, o_1_1, o_1_2, o_1_3, o_1_4, o_1_5, o_1_6, o_1_7, c_1, o_87_0, o_87_1, o_87_2, o_87_3, c_87, o_90_0, o_90_1, o_90_2, c_90, o_93_0, c_93, o_3_0, o_3_1, o_3_2, o_3_3, o_3_4, o_3_5, o_3_6, o_3_7, o_3_8, c_3, o_114_3, o_114_4, o_114_5, o_114_6, o_114_7, o_114_8, o_114_9, o_114_10, o_114_11, o_114_12, o_114_14, o_114_15, o_114_16, o_114_17, o_114_18, o_114_19, c_114, c_2, o_2_0, o_1_8, p_1_8, o_93_1, p_93_1, o_114_0, o_114_1, p_114_1, o_114_2, p_114_2, o_114_13, p_114_13, c_sh, o_sh_0, o_sh_1, o_sh_2, p_sh_1, p_sh_2, rL_it, wL_it, ↓rS, rLv, rHu, ↓rLr, ↓rHr, ↓rSh, rShR, wShR, nul_s, nul_n, fSg_putA, ↓tk_I h, ↓tk_R h, ↓tk_c h, tk_r hr, tk_w hr]
theorem X_putB {j v : Nat} (h : tl[k]? = some (c7 s m)) (hr : tl[m]? = some (cN (s * s + s) f)) (hs : s ≤ 8) (hj : j < s) : fSg_putB (hp I L R tl) (131 + k) (nI j) (lN v) = some (hp I L R (tl.set m (cN (s * s + s) (fu f (s * s + j) v)))) := by
  have h2 := sq_b hs
  simp (maxSteps := 1000000) (disch := omega) only [↓o_1_0b, ↓o_1_1b, ↓o_1_2b, ↓o_1_3b, ↓o_1_4b, ↓o_1_5b, ↓o_1_6b, ↓o_1_7b, ↓c_1b, ↓o_87_0b, ↓o_87_1b, ↓o_87_2b, ↓o_87_3b, ↓c_87b, ↓o_90_0b, ↓o_90_1b, ↓o_90_2b, ↓c_90b, ↓o_93_0b, ↓c_93b, ↓o_3_0b, ↓o_3_1b, ↓o_3_2b, ↓o_3_3b, ↓o_3_4b, ↓o_3_5b, ↓o_3_6b, ↓o_3_7b, ↓o_3_8b, ↓c_3b, ↓o_114_3b, ↓o_114_4b, ↓o_114_5b, ↓o_114_6b, ↓o_114_7b, ↓o_114_8b, ↓o_114_9b, ↓o_114_10b, ↓o_114_11b, ↓o_114_12b, ↓o_114_14b, ↓o_114_15b, ↓o_114_16b, ↓o_114_17b, ↓o_114_18b, ↓o_114_19b, ↓c_114b, ↓c_2b, ↓o_2_0b, ↓o_1_8b, ↓p_1_8b, ↓o_93_1b, ↓p_93_1b, ↓o_114_0b, ↓o_114_1b, ↓p_114_1b, ↓o_114_2b, ↓p_114_2b, ↓o_114_13b, ↓p_114_13b, ↓c_shb, ↓o_sh_0b, ↓o_sh_1b, ↓o_sh_2b, ↓p_sh_1b, ↓p_sh_2b, ↓reduceIte, Nat.reduceAdd, Nat.reduceMul, Nat.reduceSub, Nat.reduceEqDiff, lit32, litL, nI_add, nI_mul, nI_sub, lN_add, lN_mul, lN_sub, lrmN, irmN, lN_div, nI_div, nzLN, nzIN, nI_l, lN_i, nI_le, nI_ge, nI_lt, nI_nlt, nIne, lNle, lNnle, lNlt, lNnlt, lNne, uA_eq, uA_ne, uA_uA, fu_eq, fu_ne, fu_fu, stA_ne, stA_8, stB_ne, stB_1, stB_o, stA_stA, stB_stB, bnd2_e, Option.bind_some, retZ0, retZ1, retZ0', retZ1', if_true, if_false, ite_true, ite_false, true_and, and_true, false_and, and_false, not_true, not_false_eq_true, rL_88, wL_88, rL_89, wL_89, rL_91, wL_91, rL_92, wL_92, rL_113, wL_113, rL_120, wL_120, rL_122, wL_122, rL_123, wL_123, rL_125, wL_125, rL_126, wL_126, rL_127, wL_127, rL_128, wL_128, rL_129, wL_129, rL_130, wL_130, rI_94, wI_94, rI_117, wI_117, rI_118, wI_118, rI_119, wI_119, rI_121, wI_121, rI_124, wI_124, rI_42, rI_43, rI_44, rI_45, rI_46, rI_47, rI_115, rI_116, o_1_0, o_1_1, o_1_2, o_1_3, o_1_4, o_1_5, o_1_6, o_1_7, c_1, o_87_0, o_87_1, o_87_2, o_87_3, c_87, o_90_0, o_90_1, o_90_2, c_90, o_93_0, c_93, o_3_0, o_3_1, o_3_2, o_3_3, o_3_4, o_3_5, o_3_6, o_3_7, o_3_8, c_3, o_114_3, o_114_4, o_114_5, o_114_6, o_114_7, o_114_8, o_114_9, o_114_10, o_114_11, o_114_12, o_114_14, o_114_15, o_114_16, o_114_17, o_114_18, o_114_19, c_114, c_2, o_2_0, o_1_8, p_1_8, o_93_1, p_93_1, o_114_0, o_114_1, p_114_1, o_114_2, p_114_2, o_114_13, p_114_13, c_sh, o_sh_0, o_sh_1, o_sh_2, p_sh_1, p_sh_2, rL_it, wL_it, ↓rS, rLv, rHu, ↓rLr, ↓rHr, ↓rSh, rShR, wShR, nul_s, nul_n, fSg_putB, ↓tk_I h, ↓tk_R h, ↓tk_c h, tk_r hr, tk_w hr]
theorem sg_ne {c x : MC} (h : tl[k]? = some c) (hne : ¬ k = m) : (tl.set m x)[k]? = some c := by rw [List.getElem?_set_ne (Ne.symm hne)]; exact h
theorem sg_eq {x : MC} (h : m < tl.length) : (tl.set m x)[m]? = some x := by rw [List.getElem?_set_self h]
theorem sa_l {c : MC} {l : MH} (h : tl[k]? = some c) : (tl ++ l)[k]? = some c := by rw [List.getElem?_append_left (tl_lt h)]; exact h
theorem sa_r {l : MH} {j : Nat} : (tl ++ l)[tl.length + j]? = l[j]? := by rw [List.getElem?_append_right (by omega), Nat.add_sub_cancel_left]
theorem ss_r {l : MH} {j : Nat} {c : MC} : (tl ++ l).set (tl.length + j) c = tl ++ l.set j c := by
  rw [List.set_append_right _ _ (by omega), Nat.add_sub_cancel_left]
theorem sa_0 {l : MH} : (tl ++ l)[tl.length]? = l[0]? := sa_r (j := 0)
theorem ss_0 {l : MH} {c : MC} : (tl ++ l).set tl.length c = tl ++ l.set 0 c := ss_r (j := 0)
theorem tk_p {S : List Nat} {j t : Nat} {fs : List Value} {v : Value} (h : tl[k]? = some (cO t fs)) (ht : t ∈ S) (hj : j < fs.length) : pf (hp I L R tl) (131 + k) S j v = some (hp I L R (tl.set k (cO t (fs.set j v)))) := by
  unfold pf
  rw [hp_tail, h]
  simp only
  rw [if_pos ⟨ht, hj⟩, hp_tset]
theorem al_e {c : MC} {F : MH → Nat → Option α} : alc (hp I L R tl) c F = F (hp I L R (tl ++ [c])) (131 + tl.length) := by
  unfold alc
  rw [hp_app, hp_len]
theorem rep_fa (N : Nat) : cI (List.replicate N 0) = cN N (fun _ => 0) := by
  unfold cN fa
  congr 1
  apply List.ext_getElem?
  intro i
  by_cases hi : i < N
  · rw [List.getElem?_map, List.getElem?_range hi, List.getElem?_replicate_of_lt hi]
    rfl
  · rw [List.getElem?_eq_none (by simp; omega), List.getElem?_eq_none (by simp; omega)]
theorem na_e {N M : Nat} {F : MH → Nat → Option α} (h : N ≤ M) (hM : M < 2 ^ 31) : naI (hp I L R tl) (nI N) M F = F (hp I L R (tl ++ [cN N (fun _ => 0)])) (131 + tl.length) := by
  unfold naI
  rw [nI_clamp (by omega), if_neg (fun q => q.elim (nI_pos (by omega)) (by omega)), al_e, rep_fa]
theorem X_sginit {n : Nat} (h1 : 1 ≤ s) (h8 : s ≤ 8) : fSg_init n (hp I L R (tl ++ [cO 7 [.int (nI 0), .null]])) (131 + tl.length) (nI s) = some (hp I L R (tl ++ [c7 s (tl.length + 1), cN (s * s + s) (fun _ => 0)])) := by
  have hq := sq_b h8
  have e0 : fSg_init_20 n (hp I L R (tl ++ [cO 7 [.int (nI 0), .null]])) (nI s) (131 + tl.length) (131 + tl.length) = some (hp I L R (tl ++ [c7 s (tl.length + 1), cN (s * s + s) (fun _ => 0)])) := by
    unfold fSg_init_20
    rw [tk_p (t := 7) (fs := [.int (nI 0), .null]) (by rw [sa_0]; rfl) (by simp) (by simp), Option.bind_some, ss_0]
    simp only [List.set_cons_zero]
    have e1 : gfI (hp I L R (tl ++ [cO 7 [.int (nI s), .null]])) (131 + tl.length) [7] 0 = some (nI s) := by
      unfold gfI gf
      rw [hp_tail, sa_0]
      rfl
    simp only [e1, Option.bind_some, nI_mul, nI_add]
    rw [na_e (by omega) (by omega)]
    rw [List.append_assoc, tk_p (t := 7) (fs := [.int (nI s), .null]) (by rw [sa_0]; rfl) (by simp) (by simp), Option.bind_some, ss_0]
    simp only [List.cons_append, List.nil_append, List.set_cons_zero, List.set_cons_succ, List.length_append, List.length_cons, List.length_nil, Nat.zero_add]
    rfl
  unfold fSg_init
  by_cases e : s = 8
  · subst e
    simp (maxSteps := 1000000) (disch := omega) only [↓o_1_0b, ↓o_1_1b, ↓o_1_2b, ↓o_1_3b, ↓o_1_4b, ↓o_1_5b, ↓o_1_6b, ↓o_1_7b, ↓c_1b, ↓o_87_0b, ↓o_87_1b, ↓o_87_2b, ↓o_87_3b, ↓c_87b, ↓o_90_0b, ↓o_90_1b, ↓o_90_2b, ↓c_90b, ↓o_93_0b, ↓c_93b, ↓o_3_0b, ↓o_3_1b, ↓o_3_2b, ↓o_3_3b, ↓o_3_4b, ↓o_3_5b, ↓o_3_6b, ↓o_3_7b, ↓o_3_8b, ↓c_3b, ↓o_114_3b, ↓o_114_4b, ↓o_114_5b, ↓o_114_6b, ↓o_114_7b, ↓o_114_8b, ↓o_114_9b, ↓o_114_10b, ↓o_114_11b, ↓o_114_12b, ↓o_114_14b, ↓o_114_15b, ↓o_114_16b, ↓o_114_17b, ↓o_114_18b, ↓o_114_19b, ↓c_114b, ↓c_2b, ↓o_2_0b, ↓o_1_8b, ↓p_1_8b, ↓o_93_1b, ↓p_93_1b, ↓o_114_0b, ↓o_114_1b, ↓p_114_1b, ↓o_114_2b, ↓p_114_2b, ↓o_114_13b, ↓p_114_13b, ↓c_shb, ↓o_sh_0b, ↓o_sh_1b, ↓o_sh_2b, ↓p_sh_1b, ↓p_sh_2b, ↓reduceIte, Nat.reduceAdd, Nat.reduceMul, Nat.reduceSub, Nat.reduceEqDiff, lit32, litL, nI_add, nI_mul, nI_sub, lN_add, lN_mul, lN_sub, lrmN, irmN, lN_div, nI_div, nzLN, nzIN, nI_l, lN_i, nI_le, nI_ge, nI_lt, nI_nlt, nIne, lNle, lNnle, lNlt, lNnlt, lNne, uA_eq, uA_ne, uA_uA, fu_eq, fu_ne, fu_fu, stA_ne, stA_8, stB_ne, stB_1, stB_o, stA_stA, stB_stB, bnd2_e, Option.bind_some, retZ0, retZ1, retZ0', retZ1', if_true, if_false, ite_true, ite_false, true_and, and_true, false_and, and_false, not_true, not_false_eq_true, rL_88, wL_88, rL_89, wL_89, rL_91, wL_91, rL_92, wL_92, rL_113, wL_113, rL_120, wL_120, rL_122, wL_122, rL_123, wL_123, rL_125, wL_125, rL_126, wL_126, rL_127, wL_127, rL_128, wL_128, rL_129, wL_129, rL_130, wL_130, rI_94, wI_94, rI_117, wI_117, rI_118, wI_118, rI_119, wI_119, rI_121, wI_121, rI_124, wI_124, rI_42, rI_43, rI_44, rI_45, rI_46, rI_47, rI_115, rI_116, o_1_0, o_1_1, o_1_2, o_1_3, o_1_4, o_1_5, o_1_6, o_1_7, c_1, o_87_0, o_87_1, o_87_2, o_87_3, c_87, o_90_0, o_90_1, o_90_2, c_90, o_93_0, c_93, o_3_0, o_3_1, o_3_2, o_3_3, o_3_4, o_3_5, o_3_6, o_3_7, o_3_8, c_3, o_114_3, o_114_4, o_114_5, o_114_6, o_114_7, o_114_8, o_114_9, o_114_10, o_114_11, o_114_12, o_114_14, o_114_15, o_114_16, o_114_17, o_114_18, o_114_19, c_114, c_2, o_2_0, o_1_8, p_1_8, o_93_1, p_93_1, o_114_0, o_114_1, p_114_1, o_114_2, p_114_2, o_114_13, p_114_13, c_sh, o_sh_0, o_sh_1, o_sh_2, p_sh_1, p_sh_2, rL_it, wL_it, ↓rS, rLv, rHu, ↓rLr, ↓rHr, ↓rSh, rShR, wShR, nul_s, nul_n, fMa_min, e0]
  · simp (maxSteps := 1000000) (disch := omega) only [↓o_1_0b, ↓o_1_1b, ↓o_1_2b, ↓o_1_3b, ↓o_1_4b, ↓o_1_5b, ↓o_1_6b, ↓o_1_7b, ↓c_1b, ↓o_87_0b, ↓o_87_1b, ↓o_87_2b, ↓o_87_3b, ↓c_87b, ↓o_90_0b, ↓o_90_1b, ↓o_90_2b, ↓c_90b, ↓o_93_0b, ↓c_93b, ↓o_3_0b, ↓o_3_1b, ↓o_3_2b, ↓o_3_3b, ↓o_3_4b, ↓o_3_5b, ↓o_3_6b, ↓o_3_7b, ↓o_3_8b, ↓c_3b, ↓o_114_3b, ↓o_114_4b, ↓o_114_5b, ↓o_114_6b, ↓o_114_7b, ↓o_114_8b, ↓o_114_9b, ↓o_114_10b, ↓o_114_11b, ↓o_114_12b, ↓o_114_14b, ↓o_114_15b, ↓o_114_16b, ↓o_114_17b, ↓o_114_18b, ↓o_114_19b, ↓c_114b, ↓c_2b, ↓o_2_0b, ↓o_1_8b, ↓p_1_8b, ↓o_93_1b, ↓p_93_1b, ↓o_114_0b, ↓o_114_1b, ↓p_114_1b, ↓o_114_2b, ↓p_114_2b, ↓o_114_13b, ↓p_114_13b, ↓c_shb, ↓o_sh_0b, ↓o_sh_1b, ↓o_sh_2b, ↓p_sh_1b, ↓p_sh_2b, ↓reduceIte, Nat.reduceAdd, Nat.reduceMul, Nat.reduceSub, Nat.reduceEqDiff, lit32, litL, nI_add, nI_mul, nI_sub, lN_add, lN_mul, lN_sub, lrmN, irmN, lN_div, nI_div, nzLN, nzIN, nI_l, lN_i, nI_le, nI_ge, nI_lt, nI_nlt, nIne, lNle, lNnle, lNlt, lNnlt, lNne, uA_eq, uA_ne, uA_uA, fu_eq, fu_ne, fu_fu, stA_ne, stA_8, stB_ne, stB_1, stB_o, stA_stA, stB_stB, bnd2_e, Option.bind_some, retZ0, retZ1, retZ0', retZ1', if_true, if_false, ite_true, ite_false, true_and, and_true, false_and, and_false, not_true, not_false_eq_true, rL_88, wL_88, rL_89, wL_89, rL_91, wL_91, rL_92, wL_92, rL_113, wL_113, rL_120, wL_120, rL_122, wL_122, rL_123, wL_123, rL_125, wL_125, rL_126, wL_126, rL_127, wL_127, rL_128, wL_128, rL_129, wL_129, rL_130, wL_130, rI_94, wI_94, rI_117, wI_117, rI_118, wI_118, rI_119, wI_119, rI_121, wI_121, rI_124, wI_124, rI_42, rI_43, rI_44, rI_45, rI_46, rI_47, rI_115, rI_116, o_1_0, o_1_1, o_1_2, o_1_3, o_1_4, o_1_5, o_1_6, o_1_7, c_1, o_87_0, o_87_1, o_87_2, o_87_3, c_87, o_90_0, o_90_1, o_90_2, c_90, o_93_0, c_93, o_3_0, o_3_1, o_3_2, o_3_3, o_3_4, o_3_5, o_3_6, o_3_7, o_3_8, c_3, o_114_3, o_114_4, o_114_5, o_114_6, o_114_7, o_114_8, o_114_9, o_114_10, o_114_11, o_114_12, o_114_14, o_114_15, o_114_16, o_114_17, o_114_18, o_114_19, c_114, c_2, o_2_0, o_1_8, p_1_8, o_93_1, p_93_1, o_114_0, o_114_1, p_114_1, o_114_2, p_114_2, o_114_13, p_114_13, c_sh, o_sh_0, o_sh_1, o_sh_2, p_sh_1, p_sh_2, rL_it, wL_it, ↓rS, rLv, rHu, ↓rLr, ↓rHr, ↓rSh, rShR, wShR, nul_s, nul_n, fMa_min, e0]
end TK

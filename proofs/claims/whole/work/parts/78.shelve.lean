/-! shelve -/
section SV
variable {P : Nat} {I : Nat → Nat → Int32} {L : Nat → Nat → Int64} {R : Nat → Option Nat} {tl : MH} {k m s : Nat} {f : Nat → Nat}
theorem tg_t {t : Nat} {fs : List Value} (h : tl[k]? = some (cO t fs)) : tg (hp I L R tl) (131 + k) = some t := by
  unfold tg
  rw [hp_tail, h]
theorem KD_c (P s : Nat) (r : Nat → Nat) : KD P s r = 0 ∨ KD P s r = 1 ∨ KD P s r = 2 ∨ KD P s r = 3 := by
  unfold KD
  repeat' split
  all_goals omega
theorem X_told {fs : List Value} (h : tl[k]? = some (cO (tgO (KD P s f)) fs)) : fDTa_told (hp I L R tl) (131 + k) = some (hp I L R tl, nI (KD P s f)) := by
  unfold fDTa_told
  rw [tg_t h]
  rcases KD_c P s f with e | e | e | e <;> rw [e] <;> rfl
theorem wShO {p : Nat} {fs : List Value} (hp1 : p < 10) (h : tl[k]? = some (cO (tgO (KD P s f)) fs)) : wrO (hp I L R tl) 112 4 (nI p) (131 + k) = some (hp I L (fu R p (some (131 + k))) tl) := by
  unfold wrO
  rw [tg_t h]
  simp only
  rw [wShR hp1]
  rcases KD_c P s f with e | e | e | e <;> rw [e] <;> rfl
theorem X_shelve {n p : Nat} (hp1 : p < 10) (hL : L 2 0 = lN P) (h0 : 101 ≤ P) (hP : P ≤ 2000000000) (h : tl[k]? = some (c7 s m)) (hr : tl[m]? = some (cN (s * s + s) f)) (h1 : 1 ≤ s) (hs : s ≤ 8) (hf : ∀ q, f q < P) (hn : 200 < n) : ∃ l88 l89 kt tl', fX_shelve n (hp I L R tl) 1 (nI p) (131 + k) = some (hp (stA I (nI 0)) (uA (uA L 88 l88) 89 l89) (fu R p (some (131 + kt))) tl', nI (KD P s f)) ∧ Tab P tl' kt s f ∧ ∀ (j : Nat) (c : MC), tl[j]? = some c → tl'[j]? = some c := by
  obtain ⟨l88, l89, hw⟩ := X_weights (I := I) (R := R) (n := n) hL h0 hP h hr hs hf hn
  have q1 : (tl ++ [cN 37 (WT P s f)])[k]? = some (c7 s m) := sa_l h
  have q2 : (tl ++ [cN 37 (WT P s f)])[m]? = some (cN (s * s + s) f) := sa_l hr
  have q3 : (tl ++ [cN 37 (WT P s f)])[tl.length]? = some (cN 37 (WT P s f)) := sa_0
  have t1 := X_toldTable (I := I) (L := uA (uA L 88 l88) 89 l89) (R := R) (n := n) (by simp (disch := omega) only [uA_eq, uA_ne, fu_eq, fu_ne, stA_ne, stA_8, stB_ne, stB_1, stB_o]; exact hL) h0 hP q1 q2 q3 h1 hs hf (by omega)
  have q4 : (tl ++ [cN 37 (WT P s f)] ++ [cO (tgO (KD P s f)) [.ref (131 + k), .ref (131 + tl.length), .int (MF P s f), .int (nI (RE P s f))]])[(tl ++ [cN 37 (WT P s f)]).length]? = some (cO (tgO (KD P s f)) [.ref (131 + k), .ref (131 + tl.length), .int (MF P s f), .int (nI (RE P s f))]) := sa_0
  refine ⟨l88, l89, (tl ++ [cN 37 (WT P s f)]).length, tl ++ [cN 37 (WT P s f)] ++ [cO (tgO (KD P s f)) [.ref (131 + k), .ref (131 + tl.length), .int (MF P s f), .int (nI (RE P s f))]], ?_, ?_, ?_⟩
  · simp (maxSteps := 1000000) (disch := omega) only [↓o_1_0b, ↓o_1_1b, ↓o_1_2b, ↓o_1_3b, ↓o_1_4b, ↓o_1_5b, ↓o_1_6b, ↓o_1_7b, ↓c_1b, ↓o_87_0b, ↓o_87_1b, ↓o_87_2b, ↓o_87_3b, ↓c_87b, ↓o_90_0b, ↓o_90_1b, ↓o_90_2b, ↓c_90b, ↓o_93_0b, ↓c_93b, ↓o_3_0b, ↓o_3_1b, ↓o_3_2b, ↓o_3_3b, ↓o_3_4b, ↓o_3_5b, ↓o_3_6b, ↓o_3_7b, ↓o_3_8b, ↓c_3b, ↓o_114_3b, ↓o_114_4b, ↓o_114_5b, ↓o_114_6b, ↓o_114_7b, ↓o_114_8b, ↓o_114_9b, ↓o_114_10b, ↓o_114_11b, ↓o_114_12b, ↓o_114_14b, ↓o_114_15b, ↓o_114_16b, ↓o_114_17b, ↓o_114_18b, ↓o_114_19b, ↓c_114b, ↓c_2b, ↓o_2_0b, ↓o_1_8b, ↓p_1_8b, ↓o_93_1b, ↓p_93_1b, ↓o_114_0b, ↓o_114_1b, ↓p_114_1b, ↓o_114_2b, ↓p_114_2b, ↓o_114_13b, ↓p_114_13b, ↓c_shb, ↓o_sh_0b, ↓o_sh_1b, ↓o_sh_2b, ↓p_sh_1b, ↓p_sh_2b, ↓reduceIte, Nat.reduceAdd, Nat.reduceMul, Nat.reduceSub, Nat.reduceEqDiff, lit32, litL, nI_add, nI_mul, nI_sub, lN_add, lN_mul, lN_sub, lrmN, irmN, lN_div, nI_div, nzLN, nzIN, nI_l, lN_i, nI_le, nI_ge, nI_lt, nI_nlt, nIne, lNle, lNnle, lNlt, lNnlt, lNne, uA_eq, uA_ne, uA_uA, fu_eq, fu_ne, fu_fu, stA_ne, stA_8, stB_ne, stB_1, stB_o, stA_stA, stB_stB, bnd2_e, Option.bind_some, retZ0, retZ1, retZ0', retZ1', if_true, if_false, ite_true, ite_false, true_and, and_true, false_and, and_false, not_true, not_false_eq_true, rL_88, wL_88, rL_89, wL_89, rL_91, wL_91, rL_92, wL_92, rL_113, wL_113, rL_120, wL_120, rL_122, wL_122, rL_123, wL_123, rL_125, wL_125, rL_126, wL_126, rL_127, wL_127, rL_128, wL_128, rL_129, wL_129, rL_130, wL_130, rI_94, wI_94, rI_117, wI_117, rI_118, wI_118, rI_119, wI_119, rI_121, wI_121, rI_124, wI_124, rI_42, rI_43, rI_44, rI_45, rI_46, rI_47, rI_115, rI_116, o_1_0, o_1_1, o_1_2, o_1_3, o_1_4, o_1_5, o_1_6, o_1_7, c_1, o_87_0, o_87_1, o_87_2, o_87_3, c_87, o_90_0, o_90_1, o_90_2, c_90, o_93_0, c_93, o_3_0, o_3_1, o_3_2, o_3_3, o_3_4, o_3_5, o_3_6, o_3_7, o_3_8, c_3, o_114_3, o_114_4, o_114_5, o_114_6, o_114_7, o_114_8, o_114_9, o_114_10, o_114_11, o_114_12, o_114_14, o_114_15, o_114_16, o_114_17, o_114_18, o_114_19, c_114, c_2, o_2_0, o_1_8, p_1_8, o_93_1, p_93_1, o_114_0, o_114_1, p_114_1, o_114_2, p_114_2, o_114_13, p_114_13, c_sh, o_sh_0, o_sh_1, o_sh_2, p_sh_1, p_sh_2, rL_it, wL_it, ↓rS, rLv, rHu, ↓rLr, ↓rHr, ↓rSh, rShR, wShR, nul_s, nul_n, fX_shelve, hw, t1, wShO (I := I) (L := uA (uA L 88 l88) 89 l89) (R := R) hp1 q4, X_told (I := I) (L := uA (uA L 88 l88) 89 l89) q4, X_well]
  · exact ⟨k, tl.length, q4, ⟨m, sa_l q1, sa_l q2⟩, sa_l q3⟩
  · exact fun j c hj => sa_l (sa_l hj)
end SV

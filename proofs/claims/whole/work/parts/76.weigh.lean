/-! weights of the class: the loops -/
section WE
variable {P : Nat} {I : Nat → Nat → Int32} {L : Nat → Nat → Int64} {R : Nat → Option Nat} {tl : MH} {k m s : Nat} {f : Nat → Nat}
def LW (P s : Nat) (f : Nat → Nat) (L : Nat → Nat → Int64) (t i b : Nat) : Nat → Int64 := if b = 88 then roF P s f (L 88) t i else if b = 89 then haF P s f (L 89) t else L b
theorem LW_88 {t i : Nat} : LW P s f L t i 88 = roF P s f (L 88) t i := rfl
theorem LW_89 {t i : Nat} : LW P s f L t i 89 = haF P s f (L 89) t := rfl
theorem LW_o {t i b : Nat} (h1 : ¬ b = 88) (h2 : ¬ b = 89) : LW P s f L t i b = L b := by unfold LW; rw [if_neg h1, if_neg h2]
theorem LW_up {t i : Nat} : uA (LW P s f L t i) 88 (roF P s f (L 88) t (i + 1)) = LW P s f L t (i + 1) := by
  funext b
  unfold uA LW
  repeat' split
  all_goals first | rfl | omega
theorem LW_y {t : Nat} (ht : knN t < 6) : uA (LW P s f L t s) 89 (fun q => if q / 8 = t ∧ q % 8 < s then lN (Lv P s f (RT P s f 6 t) (q % 8)) else LW P s f L t s 89 q) = LW P s f L (t + 1) 0 := by
  rw [LW_89, haF_y ht]
  funext b
  unfold uA LW
  rw [← roF_e]
  repeat' split
  all_goals first | rfl | omega
theorem LW_n {t : Nat} (ht : ¬ knN t < 6) : LW P s f L t s = LW P s f L (t + 1) 0 := by
  funext b
  unfold LW
  rw [← roF_e, ← haF_n ht]
theorem wtF_s {t : Nat} : fu (wtF P s f t) t (WT P s f t) = wtF P s f (t + 1) := by
  funext j
  unfold fu wtF
  by_cases e : j = t
  · subst e
    rw [if_pos rfl, if_pos (by omega)]
  · rw [if_neg e]
    by_cases e2 : j < t
    · rw [if_pos e2, if_pos (by omega)]
    · rw [if_neg e2, if_neg (by omega)]
theorem X_we_19 {n t : Nat} {k7 : _} (hL : L 2 0 = lN P) (h0 : 101 ≤ P) (hP : P ≤ 2000000000) (h : tl[k]? = some (c7 s m)) (hr : tl[m]? = some (cN (s * s + s) f)) (hs : s ≤ 8) (hf : ∀ q, f q < P) (ht : t < 37) (hn : 100 < n) : fWe_weights_19 k7 n (hp I (LW P s f L t 0) R (tl ++ [cN 37 (wtF P s f t)])) 87 (131 + k) (131 + tl.length) (nI t) (lN 0) (nI 0) = k7 (hp I (LW P s f L (t + 1) 0) R (tl ++ [cN 37 (wtF P s f (t + 1))]), 87, 131 + k, 131 + tl.length, nI (t + 1)) := by
  have hq : ∀ g, (tl ++ [cN 37 g])[k]? = some (c7 s m) := fun g => sa_l h
  have hr2 : ∀ g, (tl ++ [cN 37 g])[m]? = some (cN (s * s + s) f) := fun g => sa_l hr
  have hw : ∀ g, (tl ++ [cN 37 g])[tl.length]? = some (cN 37 g) := fun g => sa_0
  have hk := kn_b t ht
  have hLW : ∀ t i, LW P s f L t i 2 0 = lN P := fun t i => by rw [LW_o (by omega) (by omega)]; exact hL
  refine lp_eq (B := fun n k s => bWe_weights_19 k7 n k s.1 s.2.1 s.2.2.1 s.2.2.2.1 s.2.2.2.2.1 s.2.2.2.2.2.1 s.2.2.2.2.2.2) (fun i => (hp I (LW P s f L t i) R (tl ++ [cN 37 (wtF P s f t)]), 87, 131 + k, 131 + tl.length, nI t, lN (sm (fun i => f (s * s + i) * RT P s f 6 t i) i % P), nI i)) 60 s (by rw [show sm (fun i => f (s * s + i) * RT P s f 6 t i) 0 % P = 0 from Nat.zero_mod P]) (fun i hi n q _ => ?_) (fun n q _ => ?_) (by omega)
  · have r1 := X_we_root (I := I) (R := R) (tl := tl ++ [cN 37 (wtF P s f t)]) (hLW t i) h0 hP hs ht hi (LW_88 (P := P) (s := s) (f := f) (L := L) (t := t) (i := i)) (LW_89 (P := P) (s := s) (f := f) (L := L) (t := t) (i := i))
    rw [LW_up] at r1
    have b1 := X_b (I := I) (L := LW P s f L t (i + 1)) (R := R) (hq (wtF P s f t)) (hr2 _) hs hi (by have := hf (s * s + i); omega)
    have t1 := X_times (I := I) (R := R) (tl := tl ++ [cN 37 (wtF P s f t)]) (hLW t (i + 1)) h0 hP (hf (s * s + i)) (RT_lt (s := s) (f := f) (i := i) (show 1 < P by omega) ht)
    have p1 := X_plus (I := I) (R := R) (tl := tl ++ [cN 37 (wtF P s f t)]) (hLW t (i + 1)) h0 hP (Nat.mod_lt (sm (fun i => f (s * s + i) * RT P s f 6 t i) i) (show P > 0 by omega)) (Nat.mod_lt (f (s * s + i) * RT P s f 6 t i) (show P > 0 by omega))
    have e1 := sm_x (P := P) (fun i => f (s * s + i) * RT P s f 6 t i) i
    rw [e1] at p1
    have e2 : LW P s f L t (i + 1) 88 (t * 8 + i) = lN (RT P s f 6 t i) := by
      rw [LW_88]
      unfold roF
      rw [if_pos (by omega), show (t * 8 + i) / 8 = t by omega, show (t * 8 + i) % 8 = i by omega]
    have q1 := hq (wtF P s f t)
    have q2 := hr2 (wtF P s f t)
    simp (maxSteps := 1000000) (disch := omega) only [↓o_1_0b, ↓o_1_1b, ↓o_1_2b, ↓o_1_3b, ↓o_1_4b, ↓o_1_5b, ↓o_1_6b, ↓o_1_7b, ↓c_1b, ↓o_87_0b, ↓o_87_1b, ↓o_87_2b, ↓o_87_3b, ↓c_87b, ↓o_90_0b, ↓o_90_1b, ↓o_90_2b, ↓c_90b, ↓o_93_0b, ↓c_93b, ↓o_3_0b, ↓o_3_1b, ↓o_3_2b, ↓o_3_3b, ↓o_3_4b, ↓o_3_5b, ↓o_3_6b, ↓o_3_7b, ↓o_3_8b, ↓c_3b, ↓o_114_3b, ↓o_114_4b, ↓o_114_5b, ↓o_114_6b, ↓o_114_7b, ↓o_114_8b, ↓o_114_9b, ↓o_114_10b, ↓o_114_11b, ↓o_114_12b, ↓o_114_14b, ↓o_114_15b, ↓o_114_16b, ↓o_114_17b, ↓o_114_18b, ↓o_114_19b, ↓c_114b, ↓c_2b, ↓o_2_0b, ↓o_1_8b, ↓p_1_8b, ↓o_93_1b, ↓p_93_1b, ↓o_114_0b, ↓o_114_1b, ↓p_114_1b, ↓o_114_2b, ↓p_114_2b, ↓o_114_13b, ↓p_114_13b, ↓c_shb, ↓o_sh_0b, ↓o_sh_1b, ↓o_sh_2b, ↓p_sh_1b, ↓p_sh_2b, ↓reduceIte, Nat.reduceAdd, Nat.reduceMul, Nat.reduceSub, Nat.reduceEqDiff, lit32, litL, nI_add, nI_mul, nI_sub, lN_add, lN_mul, lN_sub, lrmN, irmN, lN_div, nI_div, nzLN, nzIN, nI_l, lN_i, nI_le, nI_ge, nI_lt, nI_nlt, nIne, lNle, lNnle, lNlt, lNnlt, lNne, uA_eq, uA_ne, uA_uA, fu_eq, fu_ne, fu_fu, stA_ne, stA_8, stB_ne, stB_1, stB_o, stA_stA, stB_stB, bnd2_e, Option.bind_some, retZ0, retZ1, retZ0', retZ1', if_true, if_false, ite_true, ite_false, true_and, and_true, false_and, and_false, not_true, not_false_eq_true, rL_88, wL_88, rL_89, wL_89, rL_91, wL_91, rL_92, wL_92, rL_113, wL_113, rL_120, wL_120, rL_122, wL_122, rL_123, wL_123, rL_125, wL_125, rL_126, wL_126, rL_127, wL_127, rL_128, wL_128, rL_129, wL_129, rL_130, wL_130, rI_94, wI_94, rI_117, wI_117, rI_118, wI_118, rI_119, wI_119, rI_121, wI_121, rI_124, wI_124, rI_42, rI_43, rI_44, rI_45, rI_46, rI_47, rI_115, rI_116, o_1_0, o_1_1, o_1_2, o_1_3, o_1_4, o_1_5, o_1_6, o_1_7, c_1, o_87_0, o_87_1, o_87_2, o_87_3, c_87, o_90_0, o_90_1, o_90_2, c_90, o_93_0, c_93, o_3_0, o_3_1, o_3_2, o_3_3, o_3_4, o_3_5, o_3_6, o_3_7, o_3_8, c_3, o_114_3, o_114_4, o_114_5, o_114_6, o_114_7, o_114_8, o_114_9, o_114_10, o_114_11, o_114_12, o_114_14, o_114_15, o_114_16, o_114_17, o_114_18, o_114_19, c_114, c_2, o_2_0, o_1_8, p_1_8, o_93_1, p_93_1, o_114_0, o_114_1, p_114_1, o_114_2, p_114_2, o_114_13, p_114_13, c_sh, o_sh_0, o_sh_1, o_sh_2, p_sh_1, p_sh_2, rL_it, wL_it, ↓rS, rLv, rHu, ↓rLr, ↓rHr, ↓rSh, rShR, wShR, nul_s, nul_n, bWe_weights_19, ↓tk_I q1, ↓tk_R q1, ↓tk_c q1, tk_r q2, tk_w q2, r1, b1, e2, t1, p1]
  · have q1 := hq (wtF P s f t)
    have q2 := hr2 (wtF P s f t)
    have q3 := hw (wtF P s f t)
    have hwt : WT P s f t < P := Nat.mod_lt _ (by omega)
    rw [show sm (fun i => f (s * s + i) * RT P s f 6 t i) s % P = WT P s f t from rfl]
    by_cases e : knN t < 6
    · have u1 := X_hangUp (I := I) (L := LW P s f L t s) (R := R) (tl := tl ++ [cN 37 (wtF P s f (t + 1))]) (n := n) (u := RT P s f 6 t) (hLW t s) h0 hP (hq _) (hr2 _) hs hf ht (fun j hj => by
        rw [LW_88]
        unfold roF
        rw [if_pos (by omega), show (t * 8 + j) / 8 = t by omega, show (t * 8 + j) % 8 = j by omega]) (fun j => RT_lt (by omega) ht) (by omega)
      rw [LW_y e] at u1
      simp (maxSteps := 1000000) (disch := omega) only [↓o_1_0b, ↓o_1_1b, ↓o_1_2b, ↓o_1_3b, ↓o_1_4b, ↓o_1_5b, ↓o_1_6b, ↓o_1_7b, ↓c_1b, ↓o_87_0b, ↓o_87_1b, ↓o_87_2b, ↓o_87_3b, ↓c_87b, ↓o_90_0b, ↓o_90_1b, ↓o_90_2b, ↓c_90b, ↓o_93_0b, ↓c_93b, ↓o_3_0b, ↓o_3_1b, ↓o_3_2b, ↓o_3_3b, ↓o_3_4b, ↓o_3_5b, ↓o_3_6b, ↓o_3_7b, ↓o_3_8b, ↓c_3b, ↓o_114_3b, ↓o_114_4b, ↓o_114_5b, ↓o_114_6b, ↓o_114_7b, ↓o_114_8b, ↓o_114_9b, ↓o_114_10b, ↓o_114_11b, ↓o_114_12b, ↓o_114_14b, ↓o_114_15b, ↓o_114_16b, ↓o_114_17b, ↓o_114_18b, ↓o_114_19b, ↓c_114b, ↓c_2b, ↓o_2_0b, ↓o_1_8b, ↓p_1_8b, ↓o_93_1b, ↓p_93_1b, ↓o_114_0b, ↓o_114_1b, ↓p_114_1b, ↓o_114_2b, ↓p_114_2b, ↓o_114_13b, ↓p_114_13b, ↓c_shb, ↓o_sh_0b, ↓o_sh_1b, ↓o_sh_2b, ↓p_sh_1b, ↓p_sh_2b, ↓reduceIte, Nat.reduceAdd, Nat.reduceMul, Nat.reduceSub, Nat.reduceEqDiff, lit32, litL, nI_add, nI_mul, nI_sub, lN_add, lN_mul, lN_sub, lrmN, irmN, lN_div, nI_div, nzLN, nzIN, nI_l, lN_i, nI_le, nI_ge, nI_lt, nI_nlt, nIne, lNle, lNnle, lNlt, lNnlt, lNne, uA_eq, uA_ne, uA_uA, fu_eq, fu_ne, fu_fu, stA_ne, stA_8, stB_ne, stB_1, stB_o, stA_stA, stB_stB, bnd2_e, Option.bind_some, retZ0, retZ1, retZ0', retZ1', if_true, if_false, ite_true, ite_false, true_and, and_true, false_and, and_false, not_true, not_false_eq_true, rL_88, wL_88, rL_89, wL_89, rL_91, wL_91, rL_92, wL_92, rL_113, wL_113, rL_120, wL_120, rL_122, wL_122, rL_123, wL_123, rL_125, wL_125, rL_126, wL_126, rL_127, wL_127, rL_128, wL_128, rL_129, wL_129, rL_130, wL_130, rI_94, wI_94, rI_117, wI_117, rI_118, wI_118, rI_119, wI_119, rI_121, wI_121, rI_124, wI_124, rI_42, rI_43, rI_44, rI_45, rI_46, rI_47, rI_115, rI_116, o_1_0, o_1_1, o_1_2, o_1_3, o_1_4, o_1_5, o_1_6, o_1_7, c_1, o_87_0, o_87_1, o_87_2, o_87_3, c_87, o_90_0, o_90_1, o_90_2, c_90, o_93_0, c_93, o_3_0, o_3_1, o_3_2, o_3_3, o_3_4, o_3_5, o_3_6, o_3_7, o_3_8, c_3, o_114_3, o_114_4, o_114_5, o_114_6, o_114_7, o_114_8, o_114_9, o_114_10, o_114_11, o_114_12, o_114_14, o_114_15, o_114_16, o_114_17, o_114_18, o_114_19, c_114, c_2, o_2_0, o_1_8, p_1_8, o_93_1, p_93_1, o_114_0, o_114_1, p_114_1, o_114_2, p_114_2, o_114_13, p_114_13, c_sh, o_sh_0, o_sh_1, o_sh_2, p_sh_1, p_sh_2, rL_it, wL_it, ↓rS, rLv, rHu, ↓rLr, ↓rHr, ↓rSh, rShR, wShR, nul_s, nul_n, bWe_weights_19, ↓tk_I q1, ↓tk_R q1, ↓tk_c q1, tk_r q2, tk_w q2, tk_w q3, ss_0, List.set_cons_zero, wtF_s, u1, fWe_weights_103]
    · rw [← LW_n e]
      simp (maxSteps := 1000000) (disch := omega) only [↓o_1_0b, ↓o_1_1b, ↓o_1_2b, ↓o_1_3b, ↓o_1_4b, ↓o_1_5b, ↓o_1_6b, ↓o_1_7b, ↓c_1b, ↓o_87_0b, ↓o_87_1b, ↓o_87_2b, ↓o_87_3b, ↓c_87b, ↓o_90_0b, ↓o_90_1b, ↓o_90_2b, ↓c_90b, ↓o_93_0b, ↓c_93b, ↓o_3_0b, ↓o_3_1b, ↓o_3_2b, ↓o_3_3b, ↓o_3_4b, ↓o_3_5b, ↓o_3_6b, ↓o_3_7b, ↓o_3_8b, ↓c_3b, ↓o_114_3b, ↓o_114_4b, ↓o_114_5b, ↓o_114_6b, ↓o_114_7b, ↓o_114_8b, ↓o_114_9b, ↓o_114_10b, ↓o_114_11b, ↓o_114_12b, ↓o_114_14b, ↓o_114_15b, ↓o_114_16b, ↓o_114_17b, ↓o_114_18b, ↓o_114_19b, ↓c_114b, ↓c_2b, ↓o_2_0b, ↓o_1_8b, ↓p_1_8b, ↓o_93_1b, ↓p_93_1b, ↓o_114_0b, ↓o_114_1b, ↓p_114_1b, ↓o_114_2b, ↓p_114_2b, ↓o_114_13b, ↓p_114_13b, ↓c_shb, ↓o_sh_0b, ↓o_sh_1b, ↓o_sh_2b, ↓p_sh_1b, ↓p_sh_2b, ↓reduceIte, Nat.reduceAdd, Nat.reduceMul, Nat.reduceSub, Nat.reduceEqDiff, lit32, litL, nI_add, nI_mul, nI_sub, lN_add, lN_mul, lN_sub, lrmN, irmN, lN_div, nI_div, nzLN, nzIN, nI_l, lN_i, nI_le, nI_ge, nI_lt, nI_nlt, nIne, lNle, lNnle, lNlt, lNnlt, lNne, uA_eq, uA_ne, uA_uA, fu_eq, fu_ne, fu_fu, stA_ne, stA_8, stB_ne, stB_1, stB_o, stA_stA, stB_stB, bnd2_e, Option.bind_some, retZ0, retZ1, retZ0', retZ1', if_true, if_false, ite_true, ite_false, true_and, and_true, false_and, and_false, not_true, not_false_eq_true, rL_88, wL_88, rL_89, wL_89, rL_91, wL_91, rL_92, wL_92, rL_113, wL_113, rL_120, wL_120, rL_122, wL_122, rL_123, wL_123, rL_125, wL_125, rL_126, wL_126, rL_127, wL_127, rL_128, wL_128, rL_129, wL_129, rL_130, wL_130, rI_94, wI_94, rI_117, wI_117, rI_118, wI_118, rI_119, wI_119, rI_121, wI_121, rI_124, wI_124, rI_42, rI_43, rI_44, rI_45, rI_46, rI_47, rI_115, rI_116, o_1_0, o_1_1, o_1_2, o_1_3, o_1_4, o_1_5, o_1_6, o_1_7, c_1, o_87_0, o_87_1, o_87_2, o_87_3, c_87, o_90_0, o_90_1, o_90_2, c_90, o_93_0, c_93, o_3_0, o_3_1, o_3_2, o_3_3, o_3_4, o_3_5, o_3_6, o_3_7, o_3_8, c_3, o_114_3, o_114_4, o_114_5, o_114_6, o_114_7, o_114_8, o_114_9, o_114_10, o_114_11, o_114_12, o_114_14, o_114_15, o_114_16, o_114_17, o_114_18, o_114_19, c_114, c_2, o_2_0, o_1_8, p_1_8, o_93_1, p_93_1, o_114_0, o_114_1, p_114_1, o_114_2, p_114_2, o_114_13, p_114_13, c_sh, o_sh_0, o_sh_1, o_sh_2, p_sh_1, p_sh_2, rL_it, wL_it, ↓rS, rLv, rHu, ↓rLr, ↓rHr, ↓rSh, rShR, wShR, nul_s, nul_n, bWe_weights_19, ↓tk_I q1, ↓tk_R q1, ↓tk_c q1, tk_r q2, tk_w q2, tk_w q3, ss_0, List.set_cons_zero, wtF_s, fWe_weights_103]
theorem X_weights {n : Nat} (hL : L 2 0 = lN P) (h0 : 101 ≤ P) (hP : P ≤ 2000000000) (h : tl[k]? = some (c7 s m)) (hr : tl[m]? = some (cN (s * s + s) f)) (hs : s ≤ 8) (hf : ∀ q, f q < P) (hn : 200 < n) : ∃ l88 l89, fWe_weights n (hp I L R tl) 87 (131 + k) = some (hp I (uA (uA L 88 l88) 89 l89) R (tl ++ [cN 37 (WT P s f)]), 131 + tl.length) := by
  refine ⟨roF P s f (L 88) 37 0, haF P s f (L 89) 37, ?_⟩
  unfold fWe_weights
  rw [show (37 : Int32) = nI 37 from rfl, na_e (by omega) (by omega)]
  unfold fWe_weights_7
  refine lp_eq (B := fun n k s => bWe_weights_7 n k s.1 s.2.1 s.2.2.1 s.2.2.2.1 s.2.2.2.2) (fun t => (hp I (LW P s f L t 0) R (tl ++ [cN 37 (wtF P s f t)]), 87, 131 + k, 131 + tl.length, nI t)) 110 37 ?_ (fun t ht n q _ => ?_) (fun n q _ => ?_) (by omega)
  · rw [show LW P s f L 0 0 = L from ?_, show wtF P s f 0 = fun _ => 0 from ?_]
    · rfl
    · funext j
      exact if_neg (by omega)
    · funext b
      unfold LW
      by_cases e1 : b = 88
      · rw [if_pos e1, e1]
        funext q
        exact if_neg (by omega)
      · rw [if_neg e1]
        by_cases e2 : b = 89
        · rw [if_pos e2, e2]
          funext q
          exact if_neg (by omega)
        · rw [if_neg e2]
  · have u := X_we_19 (I := I) (R := R) (n := n) (k7 := q) hL h0 hP h hr hs hf ht (by omega)
    simp (maxSteps := 1000000) (disch := omega) only [↓o_1_0b, ↓o_1_1b, ↓o_1_2b, ↓o_1_3b, ↓o_1_4b, ↓o_1_5b, ↓o_1_6b, ↓o_1_7b, ↓c_1b, ↓o_87_0b, ↓o_87_1b, ↓o_87_2b, ↓o_87_3b, ↓c_87b, ↓o_90_0b, ↓o_90_1b, ↓o_90_2b, ↓c_90b, ↓o_93_0b, ↓c_93b, ↓o_3_0b, ↓o_3_1b, ↓o_3_2b, ↓o_3_3b, ↓o_3_4b, ↓o_3_5b, ↓o_3_6b, ↓o_3_7b, ↓o_3_8b, ↓c_3b, ↓o_114_3b, ↓o_114_4b, ↓o_114_5b, ↓o_114_6b, ↓o_114_7b, ↓o_114_8b, ↓o_114_9b, ↓o_114_10b, ↓o_114_11b, ↓o_114_12b, ↓o_114_14b, ↓o_114_15b, ↓o_114_16b, ↓o_114_17b, ↓o_114_18b, ↓o_114_19b, ↓c_114b, ↓c_2b, ↓o_2_0b, ↓o_1_8b, ↓p_1_8b, ↓o_93_1b, ↓p_93_1b, ↓o_114_0b, ↓o_114_1b, ↓p_114_1b, ↓o_114_2b, ↓p_114_2b, ↓o_114_13b, ↓p_114_13b, ↓c_shb, ↓o_sh_0b, ↓o_sh_1b, ↓o_sh_2b, ↓p_sh_1b, ↓p_sh_2b, ↓reduceIte, Nat.reduceAdd, Nat.reduceMul, Nat.reduceSub, Nat.reduceEqDiff, lit32, litL, nI_add, nI_mul, nI_sub, lN_add, lN_mul, lN_sub, lrmN, irmN, lN_div, nI_div, nzLN, nzIN, nI_l, lN_i, nI_le, nI_ge, nI_lt, nI_nlt, nIne, lNle, lNnle, lNlt, lNnlt, lNne, uA_eq, uA_ne, uA_uA, fu_eq, fu_ne, fu_fu, stA_ne, stA_8, stB_ne, stB_1, stB_o, stA_stA, stB_stB, bnd2_e, Option.bind_some, retZ0, retZ1, retZ0', retZ1', if_true, if_false, ite_true, ite_false, true_and, and_true, false_and, and_false, not_true, not_false_eq_true, rL_88, wL_88, rL_89, wL_89, rL_91, wL_91, rL_92, wL_92, rL_113, wL_113, rL_120, wL_120, rL_122, wL_122, rL_123, wL_123, rL_125, wL_125, rL_126, wL_126, rL_127, wL_127, rL_128, wL_128, rL_129, wL_129, rL_130, wL_130, rI_94, wI_94, rI_117, wI_117, rI_118, wI_118, rI_119, wI_119, rI_121, wI_121, rI_124, wI_124, rI_42, rI_43, rI_44, rI_45, rI_46, rI_47, rI_115, rI_116, o_1_0, o_1_1, o_1_2, o_1_3, o_1_4, o_1_5, o_1_6, o_1_7, c_1, o_87_0, o_87_1, o_87_2, o_87_3, c_87, o_90_0, o_90_1, o_90_2, c_90, o_93_0, c_93, o_3_0, o_3_1, o_3_2, o_3_3, o_3_4, o_3_5, o_3_6, o_3_7, o_3_8, c_3, o_114_3, o_114_4, o_114_5, o_114_6, o_114_7, o_114_8, o_114_9, o_114_10, o_114_11, o_114_12, o_114_14, o_114_15, o_114_16, o_114_17, o_114_18, o_114_19, c_114, c_2, o_2_0, o_1_8, p_1_8, o_93_1, p_93_1, o_114_0, o_114_1, p_114_1, o_114_2, p_114_2, o_114_13, p_114_13, c_sh, o_sh_0, o_sh_1, o_sh_2, p_sh_1, p_sh_2, rL_it, wL_it, ↓rS, rLv, rHu, ↓rLr, ↓rHr, ↓rSh, rShR, wShR, nul_s, nul_n, bWe_weights_7, u]
  · simp (maxSteps := 1000000) (disch := omega) only [↓o_1_0b, ↓o_1_1b, ↓o_1_2b, ↓o_1_3b, ↓o_1_4b, ↓o_1_5b, ↓o_1_6b, ↓o_1_7b, ↓c_1b, ↓o_87_0b, ↓o_87_1b, ↓o_87_2b, ↓o_87_3b, ↓c_87b, ↓o_90_0b, ↓o_90_1b, ↓o_90_2b, ↓c_90b, ↓o_93_0b, ↓c_93b, ↓o_3_0b, ↓o_3_1b, ↓o_3_2b, ↓o_3_3b, ↓o_3_4b, ↓o_3_5b, ↓o_3_6b, ↓o_3_7b, ↓o_3_8b, ↓c_3b, ↓o_114_3b, ↓o_114_4b, ↓o_114_5b, ↓o_114_6b, ↓o_114_7b, ↓o_114_8b, ↓o_114_9b, ↓o_114_10b, ↓o_114_11b, ↓o_114_12b, ↓o_114_14b, ↓o_114_15b, ↓o_114_16b, ↓o_114_17b, ↓o_114_18b, ↓o_114_19b, ↓c_114b, ↓c_2b, ↓o_2_0b, ↓o_1_8b, ↓p_1_8b, ↓o_93_1b, ↓p_93_1b, ↓o_114_0b, ↓o_114_1b, ↓p_114_1b, ↓o_114_2b, ↓p_114_2b, ↓o_114_13b, ↓p_114_13b, ↓c_shb, ↓o_sh_0b, ↓o_sh_1b, ↓o_sh_2b, ↓p_sh_1b, ↓p_sh_2b, ↓reduceIte, Nat.reduceAdd, Nat.reduceMul, Nat.reduceSub, Nat.reduceEqDiff, lit32, litL, nI_add, nI_mul, nI_sub, lN_add, lN_mul, lN_sub, lrmN, irmN, lN_div, nI_div, nzLN, nzIN, nI_l, lN_i, nI_le, nI_ge, nI_lt, nI_nlt, nIne, lNle, lNnle, lNlt, lNnlt, lNne, uA_eq, uA_ne, uA_uA, fu_eq, fu_ne, fu_fu, stA_ne, stA_8, stB_ne, stB_1, stB_o, stA_stA, stB_stB, bnd2_e, Option.bind_some, retZ0, retZ1, retZ0', retZ1', if_true, if_false, ite_true, ite_false, true_and, and_true, false_and, and_false, not_true, not_false_eq_true, rL_88, wL_88, rL_89, wL_89, rL_91, wL_91, rL_92, wL_92, rL_113, wL_113, rL_120, wL_120, rL_122, wL_122, rL_123, wL_123, rL_125, wL_125, rL_126, wL_126, rL_127, wL_127, rL_128, wL_128, rL_129, wL_129, rL_130, wL_130, rI_94, wI_94, rI_117, wI_117, rI_118, wI_118, rI_119, wI_119, rI_121, wI_121, rI_124, wI_124, rI_42, rI_43, rI_44, rI_45, rI_46, rI_47, rI_115, rI_116, o_1_0, o_1_1, o_1_2, o_1_3, o_1_4, o_1_5, o_1_6, o_1_7, c_1, o_87_0, o_87_1, o_87_2, o_87_3, c_87, o_90_0, o_90_1, o_90_2, c_90, o_93_0, c_93, o_3_0, o_3_1, o_3_2, o_3_3, o_3_4, o_3_5, o_3_6, o_3_7, o_3_8, c_3, o_114_3, o_114_4, o_114_5, o_114_6, o_114_7, o_114_8, o_114_9, o_114_10, o_114_11, o_114_12, o_114_14, o_114_15, o_114_16, o_114_17, o_114_18, o_114_19, c_114, c_2, o_2_0, o_1_8, p_1_8, o_93_1, p_93_1, o_114_0, o_114_1, p_114_1, o_114_2, p_114_2, o_114_13, p_114_13, c_sh, o_sh_0, o_sh_1, o_sh_2, p_sh_1, p_sh_2, rL_it, wL_it, ↓rS, rLv, rHu, ↓rLr, ↓rHr, ↓rSh, rShR, wShR, nul_s, nul_n, bWe_weights_7]
    have e1 : cN 37 (wtF P s f 37) = cN 37 (WT P s f) := by
      exact congrArg cI (fa_ext fun q hq => by unfold wtF; rw [if_pos hq])
    have e2 : LW P s f L 37 0 = uA (uA L 88 (roF P s f (L 88) 37 0)) 89 (haF P s f (L 89) 37) := by
      funext b
      unfold LW uA
      repeat' split
      all_goals first | rfl | omega
    rw [e1, e2]
end WE

/-! both weights alike, tree by tree -/
section WA
variable {P s t : Nat} {r : Nat → Nat}
theorem mulv_c (u v : Nat → Nat) : mulv P u v = mulv P v u := by
  funext i
  unfold mulv
  rw [Nat.mul_comm]
theorem mulv_a (u v w : Nat → Nat) : mulv P (mulv P u v) w = mulv P u (mulv P v w) := by
  funext i
  unfold mulv
  rw [Nat.mod_mul_mod, Nat.mul_mod_mod, Nat.mul_assoc]
theorem mulv_l (u v w : Nat → Nat) : mulv P u (mulv P v w) = mulv P v (mulv P u w) := by
  rw [← mulv_a, mulv_c u v, mulv_a]
theorem mulv_1 (u : Nat → Nat) : mulv P (fun _ => 1) (Lv P s r u) = Lv P s r u := by
  funext i
  unfold mulv Lv
  rw [Nat.one_mul, Nat.mod_mod]
def cwC (P s : Nat) (r : Nat → Nat) (t : Nat) : Nat → Nat → Nat → Nat
  | 0 => fun _ _ => 1
  | d + 1 => fun q => if q = upN t (knN t - 1 - d) then mulv P (cwC P s r t d q) (Lv P s r (cwC P s r t d (knN t - 1 - d))) else cwC P s r t d q
theorem Lv_congr {u v : Nat → Nat} (h : ∀ j, j < s → u j = v j) (i : Nat) : Lv P s r u i = Lv P s r v i := by
  unfold Lv
  rw [sm_congr (fun j hj => by rw [h j hj])]
theorem cw_SC : ∀ d q j, j < s → cwN P s r t d q j = cwC P s r t d q j
  | 0, _, _, _ => rfl
  | d + 1, q, j, hj => by
    unfold cwN cwC updI
    by_cases e : q = upN t (knN t - 1 - d)
    · rw [if_pos ⟨e, hj⟩, if_pos e, cw_SC d q j hj, Lv_congr (fun i hi => cw_SC d _ i hi) j]
      rfl
    · rw [if_neg (fun h => e h.1), if_neg e, cw_SC d q j hj]
theorem cw_0 : cwC P s r 0 0 0 = RT P s r 6 0 := by
  exact (show cwC P s r 0 0 0 = (fun _ => 1) from rfl).trans (show RT P s r 6 0 = (fun _ => 1) from rfl).symm
theorem cw_1 : cwC P s r 1 1 0 = RT P s r 6 1 := by
  exact (show cwC P s r 1 1 0 = (mulv P (fun _ => 1) (Lv P s r (fun _ => 1))) from rfl).trans (show RT P s r 6 1 = (mulv P (fun _ => 1) (Lv P s r (fun _ => 1))) from rfl).symm
theorem cw_2 : cwC P s r 2 2 0 = RT P s r 6 2 := by
  exact (show cwC P s r 2 2 0 = (mulv P (fun _ => 1) (Lv P s r (mulv P (fun _ => 1) (Lv P s r (fun _ => 1))))) from rfl).trans (show RT P s r 6 2 = (mulv P (fun _ => 1) (Lv P s r (mulv P (fun _ => 1) (Lv P s r (fun _ => 1))))) from rfl).symm
theorem cw_3 : cwC P s r 3 2 0 = RT P s r 6 3 := by
  exact (show cwC P s r 3 2 0 = (mulv P (mulv P (fun _ => 1) (Lv P s r (fun _ => 1))) (Lv P s r (fun _ => 1))) from rfl).trans (show RT P s r 6 3 = (mulv P (mulv P (fun _ => 1) (Lv P s r (fun _ => 1))) (Lv P s r (fun _ => 1))) from rfl).symm
theorem cw_4 : cwC P s r 4 3 0 = RT P s r 6 4 := by
  exact (show cwC P s r 4 3 0 = (mulv P (fun _ => 1) (Lv P s r (mulv P (fun _ => 1) (Lv P s r (mulv P (fun _ => 1) (Lv P s r (fun _ => 1))))))) from rfl).trans (show RT P s r 6 4 = (mulv P (fun _ => 1) (Lv P s r (mulv P (fun _ => 1) (Lv P s r (mulv P (fun _ => 1) (Lv P s r (fun _ => 1))))))) from rfl).symm
theorem cw_5 : cwC P s r 5 3 0 = RT P s r 6 5 := by
  exact (show cwC P s r 5 3 0 = (mulv P (fun _ => 1) (Lv P s r (mulv P (mulv P (fun _ => 1) (Lv P s r (fun _ => 1))) (Lv P s r (fun _ => 1))))) from rfl).trans (show RT P s r 6 5 = (mulv P (fun _ => 1) (Lv P s r (mulv P (mulv P (fun _ => 1) (Lv P s r (fun _ => 1))) (Lv P s r (fun _ => 1))))) from rfl).symm
theorem cw_6 : cwC P s r 6 3 0 = RT P s r 6 6 := by
  rw [show cwC P s r 6 3 0 = (mulv P (mulv P (fun _ => 1) (Lv P s r (fun _ => 1))) (Lv P s r (mulv P (fun _ => 1) (Lv P s r (fun _ => 1))))) from rfl, show RT P s r 6 6 = (mulv P (mulv P (fun _ => 1) (Lv P s r (mulv P (fun _ => 1) (Lv P s r (fun _ => 1))))) (Lv P s r (fun _ => 1))) from rfl]
  simp only [mulv_1, mulv_a, mulv_l, mulv_c]
theorem cw_7 : cwC P s r 7 3 0 = RT P s r 6 7 := by
  exact (show cwC P s r 7 3 0 = (mulv P (mulv P (mulv P (fun _ => 1) (Lv P s r (fun _ => 1))) (Lv P s r (fun _ => 1))) (Lv P s r (fun _ => 1))) from rfl).trans (show RT P s r 6 7 = (mulv P (mulv P (mulv P (fun _ => 1) (Lv P s r (fun _ => 1))) (Lv P s r (fun _ => 1))) (Lv P s r (fun _ => 1))) from rfl).symm
theorem cw_8 : cwC P s r 8 4 0 = RT P s r 6 8 := by
  exact (show cwC P s r 8 4 0 = (mulv P (fun _ => 1) (Lv P s r (mulv P (fun _ => 1) (Lv P s r (mulv P (fun _ => 1) (Lv P s r (mulv P (fun _ => 1) (Lv P s r (fun _ => 1))))))))) from rfl).trans (show RT P s r 6 8 = (mulv P (fun _ => 1) (Lv P s r (mulv P (fun _ => 1) (Lv P s r (mulv P (fun _ => 1) (Lv P s r (mulv P (fun _ => 1) (Lv P s r (fun _ => 1))))))))) from rfl).symm
theorem cw_9 : cwC P s r 9 4 0 = RT P s r 6 9 := by
  exact (show cwC P s r 9 4 0 = (mulv P (fun _ => 1) (Lv P s r (mulv P (fun _ => 1) (Lv P s r (mulv P (mulv P (fun _ => 1) (Lv P s r (fun _ => 1))) (Lv P s r (fun _ => 1))))))) from rfl).trans (show RT P s r 6 9 = (mulv P (fun _ => 1) (Lv P s r (mulv P (fun _ => 1) (Lv P s r (mulv P (mulv P (fun _ => 1) (Lv P s r (fun _ => 1))) (Lv P s r (fun _ => 1))))))) from rfl).symm
theorem cw_10 : cwC P s r 10 4 0 = RT P s r 6 10 := by
  rw [show cwC P s r 10 4 0 = (mulv P (fun _ => 1) (Lv P s r (mulv P (mulv P (fun _ => 1) (Lv P s r (fun _ => 1))) (Lv P s r (mulv P (fun _ => 1) (Lv P s r (fun _ => 1))))))) from rfl, show RT P s r 6 10 = (mulv P (fun _ => 1) (Lv P s r (mulv P (mulv P (fun _ => 1) (Lv P s r (mulv P (fun _ => 1) (Lv P s r (fun _ => 1))))) (Lv P s r (fun _ => 1))))) from rfl]
  simp only [mulv_1, mulv_a, mulv_l, mulv_c]
theorem cw_11 : cwC P s r 11 4 0 = RT P s r 6 11 := by
  rw [show cwC P s r 11 4 0 = (mulv P (mulv P (fun _ => 1) (Lv P s r (fun _ => 1))) (Lv P s r (mulv P (fun _ => 1) (Lv P s r (mulv P (fun _ => 1) (Lv P s r (fun _ => 1))))))) from rfl, show RT P s r 6 11 = (mulv P (mulv P (fun _ => 1) (Lv P s r (mulv P (fun _ => 1) (Lv P s r (mulv P (fun _ => 1) (Lv P s r (fun _ => 1))))))) (Lv P s r (fun _ => 1))) from rfl]
  simp only [mulv_1, mulv_a, mulv_l, mulv_c]
theorem cw_12 : cwC P s r 12 4 0 = RT P s r 6 12 := by
  exact (show cwC P s r 12 4 0 = (mulv P (fun _ => 1) (Lv P s r (mulv P (mulv P (mulv P (fun _ => 1) (Lv P s r (fun _ => 1))) (Lv P s r (fun _ => 1))) (Lv P s r (fun _ => 1))))) from rfl).trans (show RT P s r 6 12 = (mulv P (fun _ => 1) (Lv P s r (mulv P (mulv P (mulv P (fun _ => 1) (Lv P s r (fun _ => 1))) (Lv P s r (fun _ => 1))) (Lv P s r (fun _ => 1))))) from rfl).symm
theorem cw_13 : cwC P s r 13 4 0 = RT P s r 6 13 := by
  rw [show cwC P s r 13 4 0 = (mulv P (mulv P (fun _ => 1) (Lv P s r (fun _ => 1))) (Lv P s r (mulv P (mulv P (fun _ => 1) (Lv P s r (fun _ => 1))) (Lv P s r (fun _ => 1))))) from rfl, show RT P s r 6 13 = (mulv P (mulv P (fun _ => 1) (Lv P s r (mulv P (mulv P (fun _ => 1) (Lv P s r (fun _ => 1))) (Lv P s r (fun _ => 1))))) (Lv P s r (fun _ => 1))) from rfl]
  simp only [mulv_1, mulv_a, mulv_l, mulv_c]
theorem cw_14 : cwC P s r 14 4 0 = RT P s r 6 14 := by
  exact (show cwC P s r 14 4 0 = (mulv P (mulv P (fun _ => 1) (Lv P s r (mulv P (fun _ => 1) (Lv P s r (fun _ => 1))))) (Lv P s r (mulv P (fun _ => 1) (Lv P s r (fun _ => 1))))) from rfl).trans (show RT P s r 6 14 = (mulv P (mulv P (fun _ => 1) (Lv P s r (mulv P (fun _ => 1) (Lv P s r (fun _ => 1))))) (Lv P s r (mulv P (fun _ => 1) (Lv P s r (fun _ => 1))))) from rfl).symm
theorem cw_15 : cwC P s r 15 4 0 = RT P s r 6 15 := by
  rw [show cwC P s r 15 4 0 = (mulv P (mulv P (mulv P (fun _ => 1) (Lv P s r (fun _ => 1))) (Lv P s r (fun _ => 1))) (Lv P s r (mulv P (fun _ => 1) (Lv P s r (fun _ => 1))))) from rfl, show RT P s r 6 15 = (mulv P (mulv P (mulv P (fun _ => 1) (Lv P s r (mulv P (fun _ => 1) (Lv P s r (fun _ => 1))))) (Lv P s r (fun _ => 1))) (Lv P s r (fun _ => 1))) from rfl]
  simp only [mulv_1, mulv_a, mulv_l, mulv_c]
theorem cw_16 : cwC P s r 16 4 0 = RT P s r 6 16 := by
  exact (show cwC P s r 16 4 0 = (mulv P (mulv P (mulv P (mulv P (fun _ => 1) (Lv P s r (fun _ => 1))) (Lv P s r (fun _ => 1))) (Lv P s r (fun _ => 1))) (Lv P s r (fun _ => 1))) from rfl).trans (show RT P s r 6 16 = (mulv P (mulv P (mulv P (mulv P (fun _ => 1) (Lv P s r (fun _ => 1))) (Lv P s r (fun _ => 1))) (Lv P s r (fun _ => 1))) (Lv P s r (fun _ => 1))) from rfl).symm
theorem cw_17 : cwC P s r 17 5 0 = RT P s r 6 17 := by
  exact (show cwC P s r 17 5 0 = (mulv P (fun _ => 1) (Lv P s r (mulv P (fun _ => 1) (Lv P s r (mulv P (fun _ => 1) (Lv P s r (mulv P (fun _ => 1) (Lv P s r (mulv P (fun _ => 1) (Lv P s r (fun _ => 1))))))))))) from rfl).trans (show RT P s r 6 17 = (mulv P (fun _ => 1) (Lv P s r (mulv P (fun _ => 1) (Lv P s r (mulv P (fun _ => 1) (Lv P s r (mulv P (fun _ => 1) (Lv P s r (mulv P (fun _ => 1) (Lv P s r (fun _ => 1))))))))))) from rfl).symm
theorem cw_18 : cwC P s r 18 5 0 = RT P s r 6 18 := by
  exact (show cwC P s r 18 5 0 = (mulv P (fun _ => 1) (Lv P s r (mulv P (fun _ => 1) (Lv P s r (mulv P (fun _ => 1) (Lv P s r (mulv P (mulv P (fun _ => 1) (Lv P s r (fun _ => 1))) (Lv P s r (fun _ => 1))))))))) from rfl).trans (show RT P s r 6 18 = (mulv P (fun _ => 1) (Lv P s r (mulv P (fun _ => 1) (Lv P s r (mulv P (fun _ => 1) (Lv P s r (mulv P (mulv P (fun _ => 1) (Lv P s r (fun _ => 1))) (Lv P s r (fun _ => 1))))))))) from rfl).symm
theorem cw_19 : cwC P s r 19 5 0 = RT P s r 6 19 := by
  rw [show cwC P s r 19 5 0 = (mulv P (fun _ => 1) (Lv P s r (mulv P (fun _ => 1) (Lv P s r (mulv P (mulv P (fun _ => 1) (Lv P s r (fun _ => 1))) (Lv P s r (mulv P (fun _ => 1) (Lv P s r (fun _ => 1))))))))) from rfl, show RT P s r 6 19 = (mulv P (fun _ => 1) (Lv P s r (mulv P (fun _ => 1) (Lv P s r (mulv P (mulv P (fun _ => 1) (Lv P s r (mulv P (fun _ => 1) (Lv P s r (fun _ => 1))))) (Lv P s r (fun _ => 1))))))) from rfl]
  simp only [mulv_1, mulv_a, mulv_l, mulv_c]
theorem cw_20 : cwC P s r 20 5 0 = RT P s r 6 20 := by
  rw [show cwC P s r 20 5 0 = (mulv P (fun _ => 1) (Lv P s r (mulv P (mulv P (fun _ => 1) (Lv P s r (fun _ => 1))) (Lv P s r (mulv P (fun _ => 1) (Lv P s r (mulv P (fun _ => 1) (Lv P s r (fun _ => 1))))))))) from rfl, show RT P s r 6 20 = (mulv P (fun _ => 1) (Lv P s r (mulv P (mulv P (fun _ => 1) (Lv P s r (mulv P (fun _ => 1) (Lv P s r (mulv P (fun _ => 1) (Lv P s r (fun _ => 1))))))) (Lv P s r (fun _ => 1))))) from rfl]
  simp only [mulv_1, mulv_a, mulv_l, mulv_c]
theorem cw_21 : cwC P s r 21 5 0 = RT P s r 6 21 := by
  rw [show cwC P s r 21 5 0 = (mulv P (mulv P (fun _ => 1) (Lv P s r (fun _ => 1))) (Lv P s r (mulv P (fun _ => 1) (Lv P s r (mulv P (fun _ => 1) (Lv P s r (mulv P (fun _ => 1) (Lv P s r (fun _ => 1))))))))) from rfl, show RT P s r 6 21 = (mulv P (mulv P (fun _ => 1) (Lv P s r (mulv P (fun _ => 1) (Lv P s r (mulv P (fun _ => 1) (Lv P s r (mulv P (fun _ => 1) (Lv P s r (fun _ => 1))))))))) (Lv P s r (fun _ => 1))) from rfl]
  simp only [mulv_1, mulv_a, mulv_l, mulv_c]
theorem cw_22 : cwC P s r 22 5 0 = RT P s r 6 22 := by
  exact (show cwC P s r 22 5 0 = (mulv P (fun _ => 1) (Lv P s r (mulv P (fun _ => 1) (Lv P s r (mulv P (mulv P (mulv P (fun _ => 1) (Lv P s r (fun _ => 1))) (Lv P s r (fun _ => 1))) (Lv P s r (fun _ => 1))))))) from rfl).trans (show RT P s r 6 22 = (mulv P (fun _ => 1) (Lv P s r (mulv P (fun _ => 1) (Lv P s r (mulv P (mulv P (mulv P (fun _ => 1) (Lv P s r (fun _ => 1))) (Lv P s r (fun _ => 1))) (Lv P s r (fun _ => 1))))))) from rfl).symm
theorem cw_23 : cwC P s r 23 5 0 = RT P s r 6 23 := by
  rw [show cwC P s r 23 5 0 = (mulv P (fun _ => 1) (Lv P s r (mulv P (mulv P (fun _ => 1) (Lv P s r (fun _ => 1))) (Lv P s r (mulv P (mulv P (fun _ => 1) (Lv P s r (fun _ => 1))) (Lv P s r (fun _ => 1))))))) from rfl, show RT P s r 6 23 = (mulv P (fun _ => 1) (Lv P s r (mulv P (mulv P (fun _ => 1) (Lv P s r (mulv P (mulv P (fun _ => 1) (Lv P s r (fun _ => 1))) (Lv P s r (fun _ => 1))))) (Lv P s r (fun _ => 1))))) from rfl]
  simp only [mulv_1, mulv_a, mulv_l, mulv_c]
theorem cw_24 : cwC P s r 24 5 0 = RT P s r 6 24 := by
  rw [show cwC P s r 24 5 0 = (mulv P (mulv P (fun _ => 1) (Lv P s r (fun _ => 1))) (Lv P s r (mulv P (fun _ => 1) (Lv P s r (mulv P (mulv P (fun _ => 1) (Lv P s r (fun _ => 1))) (Lv P s r (fun _ => 1))))))) from rfl, show RT P s r 6 24 = (mulv P (mulv P (fun _ => 1) (Lv P s r (mulv P (fun _ => 1) (Lv P s r (mulv P (mulv P (fun _ => 1) (Lv P s r (fun _ => 1))) (Lv P s r (fun _ => 1))))))) (Lv P s r (fun _ => 1))) from rfl]
  simp only [mulv_1, mulv_a, mulv_l, mulv_c]
theorem cw_25 : cwC P s r 25 5 0 = RT P s r 6 25 := by
  exact (show cwC P s r 25 5 0 = (mulv P (fun _ => 1) (Lv P s r (mulv P (mulv P (fun _ => 1) (Lv P s r (mulv P (fun _ => 1) (Lv P s r (fun _ => 1))))) (Lv P s r (mulv P (fun _ => 1) (Lv P s r (fun _ => 1))))))) from rfl).trans (show RT P s r 6 25 = (mulv P (fun _ => 1) (Lv P s r (mulv P (mulv P (fun _ => 1) (Lv P s r (mulv P (fun _ => 1) (Lv P s r (fun _ => 1))))) (Lv P s r (mulv P (fun _ => 1) (Lv P s r (fun _ => 1))))))) from rfl).symm
theorem cw_26 : cwC P s r 26 5 0 = RT P s r 6 26 := by
  rw [show cwC P s r 26 5 0 = (mulv P (fun _ => 1) (Lv P s r (mulv P (mulv P (mulv P (fun _ => 1) (Lv P s r (fun _ => 1))) (Lv P s r (fun _ => 1))) (Lv P s r (mulv P (fun _ => 1) (Lv P s r (fun _ => 1))))))) from rfl, show RT P s r 6 26 = (mulv P (fun _ => 1) (Lv P s r (mulv P (mulv P (mulv P (fun _ => 1) (Lv P s r (mulv P (fun _ => 1) (Lv P s r (fun _ => 1))))) (Lv P s r (fun _ => 1))) (Lv P s r (fun _ => 1))))) from rfl]
  simp only [mulv_1, mulv_a, mulv_l, mulv_c]
theorem cw_27 : cwC P s r 27 5 0 = RT P s r 6 27 := by
  rw [show cwC P s r 27 5 0 = (mulv P (mulv P (fun _ => 1) (Lv P s r (fun _ => 1))) (Lv P s r (mulv P (mulv P (fun _ => 1) (Lv P s r (fun _ => 1))) (Lv P s r (mulv P (fun _ => 1) (Lv P s r (fun _ => 1))))))) from rfl, show RT P s r 6 27 = (mulv P (mulv P (fun _ => 1) (Lv P s r (mulv P (mulv P (fun _ => 1) (Lv P s r (mulv P (fun _ => 1) (Lv P s r (fun _ => 1))))) (Lv P s r (fun _ => 1))))) (Lv P s r (fun _ => 1))) from rfl]
  simp only [mulv_1, mulv_a, mulv_l, mulv_c]
theorem cw_28 : cwC P s r 28 5 0 = RT P s r 6 28 := by
  rw [show cwC P s r 28 5 0 = (mulv P (mulv P (fun _ => 1) (Lv P s r (mulv P (fun _ => 1) (Lv P s r (fun _ => 1))))) (Lv P s r (mulv P (fun _ => 1) (Lv P s r (mulv P (fun _ => 1) (Lv P s r (fun _ => 1))))))) from rfl, show RT P s r 6 28 = (mulv P (mulv P (fun _ => 1) (Lv P s r (mulv P (fun _ => 1) (Lv P s r (mulv P (fun _ => 1) (Lv P s r (fun _ => 1))))))) (Lv P s r (mulv P (fun _ => 1) (Lv P s r (fun _ => 1))))) from rfl]
  simp only [mulv_1, mulv_a, mulv_l, mulv_c]
theorem cw_29 : cwC P s r 29 5 0 = RT P s r 6 29 := by
  rw [show cwC P s r 29 5 0 = (mulv P (mulv P (mulv P (fun _ => 1) (Lv P s r (fun _ => 1))) (Lv P s r (fun _ => 1))) (Lv P s r (mulv P (fun _ => 1) (Lv P s r (mulv P (fun _ => 1) (Lv P s r (fun _ => 1))))))) from rfl, show RT P s r 6 29 = (mulv P (mulv P (mulv P (fun _ => 1) (Lv P s r (mulv P (fun _ => 1) (Lv P s r (mulv P (fun _ => 1) (Lv P s r (fun _ => 1))))))) (Lv P s r (fun _ => 1))) (Lv P s r (fun _ => 1))) from rfl]
  simp only [mulv_1, mulv_a, mulv_l, mulv_c]
theorem cw_30 : cwC P s r 30 5 0 = RT P s r 6 30 := by
  exact (show cwC P s r 30 5 0 = (mulv P (fun _ => 1) (Lv P s r (mulv P (mulv P (mulv P (mulv P (fun _ => 1) (Lv P s r (fun _ => 1))) (Lv P s r (fun _ => 1))) (Lv P s r (fun _ => 1))) (Lv P s r (fun _ => 1))))) from rfl).trans (show RT P s r 6 30 = (mulv P (fun _ => 1) (Lv P s r (mulv P (mulv P (mulv P (mulv P (fun _ => 1) (Lv P s r (fun _ => 1))) (Lv P s r (fun _ => 1))) (Lv P s r (fun _ => 1))) (Lv P s r (fun _ => 1))))) from rfl).symm
theorem cw_31 : cwC P s r 31 5 0 = RT P s r 6 31 := by
  rw [show cwC P s r 31 5 0 = (mulv P (mulv P (fun _ => 1) (Lv P s r (fun _ => 1))) (Lv P s r (mulv P (mulv P (mulv P (fun _ => 1) (Lv P s r (fun _ => 1))) (Lv P s r (fun _ => 1))) (Lv P s r (fun _ => 1))))) from rfl, show RT P s r 6 31 = (mulv P (mulv P (fun _ => 1) (Lv P s r (mulv P (mulv P (mulv P (fun _ => 1) (Lv P s r (fun _ => 1))) (Lv P s r (fun _ => 1))) (Lv P s r (fun _ => 1))))) (Lv P s r (fun _ => 1))) from rfl]
  simp only [mulv_1, mulv_a, mulv_l, mulv_c]
theorem cw_32 : cwC P s r 32 5 0 = RT P s r 6 32 := by
  rw [show cwC P s r 32 5 0 = (mulv P (mulv P (fun _ => 1) (Lv P s r (mulv P (fun _ => 1) (Lv P s r (fun _ => 1))))) (Lv P s r (mulv P (mulv P (fun _ => 1) (Lv P s r (fun _ => 1))) (Lv P s r (fun _ => 1))))) from rfl, show RT P s r 6 32 = (mulv P (mulv P (fun _ => 1) (Lv P s r (mulv P (mulv P (fun _ => 1) (Lv P s r (fun _ => 1))) (Lv P s r (fun _ => 1))))) (Lv P s r (mulv P (fun _ => 1) (Lv P s r (fun _ => 1))))) from rfl]
  simp only [mulv_1, mulv_a, mulv_l, mulv_c]
theorem cw_33 : cwC P s r 33 5 0 = RT P s r 6 33 := by
  rw [show cwC P s r 33 5 0 = (mulv P (mulv P (mulv P (fun _ => 1) (Lv P s r (fun _ => 1))) (Lv P s r (fun _ => 1))) (Lv P s r (mulv P (mulv P (fun _ => 1) (Lv P s r (fun _ => 1))) (Lv P s r (fun _ => 1))))) from rfl, show RT P s r 6 33 = (mulv P (mulv P (mulv P (fun _ => 1) (Lv P s r (mulv P (mulv P (fun _ => 1) (Lv P s r (fun _ => 1))) (Lv P s r (fun _ => 1))))) (Lv P s r (fun _ => 1))) (Lv P s r (fun _ => 1))) from rfl]
  simp only [mulv_1, mulv_a, mulv_l, mulv_c]
theorem cw_34 : cwC P s r 34 5 0 = RT P s r 6 34 := by
  rw [show cwC P s r 34 5 0 = (mulv P (mulv P (mulv P (fun _ => 1) (Lv P s r (fun _ => 1))) (Lv P s r (mulv P (fun _ => 1) (Lv P s r (fun _ => 1))))) (Lv P s r (mulv P (fun _ => 1) (Lv P s r (fun _ => 1))))) from rfl, show RT P s r 6 34 = (mulv P (mulv P (mulv P (fun _ => 1) (Lv P s r (mulv P (fun _ => 1) (Lv P s r (fun _ => 1))))) (Lv P s r (mulv P (fun _ => 1) (Lv P s r (fun _ => 1))))) (Lv P s r (fun _ => 1))) from rfl]
  simp only [mulv_1, mulv_a, mulv_l, mulv_c]
theorem cw_35 : cwC P s r 35 5 0 = RT P s r 6 35 := by
  rw [show cwC P s r 35 5 0 = (mulv P (mulv P (mulv P (mulv P (fun _ => 1) (Lv P s r (fun _ => 1))) (Lv P s r (fun _ => 1))) (Lv P s r (fun _ => 1))) (Lv P s r (mulv P (fun _ => 1) (Lv P s r (fun _ => 1))))) from rfl, show RT P s r 6 35 = (mulv P (mulv P (mulv P (mulv P (fun _ => 1) (Lv P s r (mulv P (fun _ => 1) (Lv P s r (fun _ => 1))))) (Lv P s r (fun _ => 1))) (Lv P s r (fun _ => 1))) (Lv P s r (fun _ => 1))) from rfl]
  simp only [mulv_1, mulv_a, mulv_l, mulv_c]
theorem cw_36 : cwC P s r 36 5 0 = RT P s r 6 36 := by
  exact (show cwC P s r 36 5 0 = (mulv P (mulv P (mulv P (mulv P (mulv P (fun _ => 1) (Lv P s r (fun _ => 1))) (Lv P s r (fun _ => 1))) (Lv P s r (fun _ => 1))) (Lv P s r (fun _ => 1))) (Lv P s r (fun _ => 1))) from rfl).trans (show RT P s r 6 36 = (mulv P (mulv P (mulv P (mulv P (mulv P (fun _ => 1) (Lv P s r (fun _ => 1))) (Lv P s r (fun _ => 1))) (Lv P s r (fun _ => 1))) (Lv P s r (fun _ => 1))) (Lv P s r (fun _ => 1))) from rfl).symm
theorem cw_all : ∀ t, t < 37 → cwC P s r t (knN t - 1) 0 = RT P s r 6 t
  | 0, _ => cw_0
  | 1, _ => cw_1
  | 2, _ => cw_2
  | 3, _ => cw_3
  | 4, _ => cw_4
  | 5, _ => cw_5
  | 6, _ => cw_6
  | 7, _ => cw_7
  | 8, _ => cw_8
  | 9, _ => cw_9
  | 10, _ => cw_10
  | 11, _ => cw_11
  | 12, _ => cw_12
  | 13, _ => cw_13
  | 14, _ => cw_14
  | 15, _ => cw_15
  | 16, _ => cw_16
  | 17, _ => cw_17
  | 18, _ => cw_18
  | 19, _ => cw_19
  | 20, _ => cw_20
  | 21, _ => cw_21
  | 22, _ => cw_22
  | 23, _ => cw_23
  | 24, _ => cw_24
  | 25, _ => cw_25
  | 26, _ => cw_26
  | 27, _ => cw_27
  | 28, _ => cw_28
  | 29, _ => cw_29
  | 30, _ => cw_30
  | 31, _ => cw_31
  | 32, _ => cw_32
  | 33, _ => cw_33
  | 34, _ => cw_34
  | 35, _ => cw_35
  | 36, _ => cw_36
  | t + 37, h => absurd h (by omega)
theorem cw_WT (ht : t < 37) : sm (fun j => r (s * s + j) * cwN P s r t (knN t - 1) 0 j) s % P = WT P s r t := by
  unfold WT
  rw [sm_congr (fun j hj => by rw [cw_SC _ _ _ hj, cw_all t ht])]
variable {I : Nat → Nat → Int32} {L : Nat → Nat → Int64} {R : Nat → Option Nat} {tl : MH} {p : Nat}
theorem M_weightOf {n : Nat} (hI : I 114 2 = nI P) (h0 : 101 ≤ P) (hP : P ≤ 2000000000) (hp1 : p < 10) (ht : t < 37) (hs : s ≤ 8) (hr : ∀ q, r q < P) (hRo : Row L p s r) (hS : I 121 p = nI s) (hn : 200 < n) : ∃ l, fM_weightOf n (hp I L R tl) 114 (nI p) (nI t) = some (hp I (uA L 125 l) R tl, lN (WT P s r t)) := ⟨_, by rw [M_weightOf0 hI h0 hP hp1 ht hs hr hRo hS hn, cw_WT ht]⟩
end WA

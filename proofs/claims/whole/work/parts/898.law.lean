/-! the law's loop over the pairs -/
section LW
variable {P : Nat} {I : Nat → Nat → Int32} {L : Nat → Nat → Int64} {R : Nat → Option Nat} {tl : MH} {X : List Int32}
theorem law_st {α : Type} [DecidableEq α] {fx fm : MH → Option (MH × α)} {K : MH → Option MH} (hp1 : Pair P fx fm) (hR : Rel P I L R tl) (hK : ∀ I' L' R' tl', Rel P I' L' R' tl' → ∃ o, K (hp I' L' R' tl') = some o) : ∃ o, ((chk (hp I L R tl) 1 11).bind fun _ => bnd2 (fx (hp I L R tl)) fun h5 i6 => ((chk h5 114 12).bind fun _ => bnd2 (fm h5) fun h10 i11 => if i6 = i11 then K h10 else (none : Option MH))) = some o := by
  obtain ⟨I', L', R', tl', r, I'', L'', e1, e2, e3⟩ := hp1 I L R tl hR
  obtain ⟨o, ho⟩ := hK _ _ _ _ e3
  refine ⟨o, ?_⟩
  rw [c_1, Option.bind_some, e1, bnd2_e, c_114, Option.bind_some, e2, bnd2_e, if_pos rfl]
  exact ho
theorem rdS_y {a : Nat} {i : Int32} (hi : i = nI a) (h : a < X.length) (hX : X.length < 2 ^ 31) : ∃ v, rdS X i = some v := by
  subst hi
  unfold rdS
  rw [if_neg (nI_pos (by omega)), nI_clamp (by omega), List.getElem?_eq_getElem h]
  exact ⟨_, rfl⟩
theorem end_i {N : Nat} (h : N ≤ 3073) : (Int32.ofNat N - 6).toInt = (N : Int) - 6 := by
  show (nI N - nI 6).toInt = _
  rw [Int32.toInt_sub, nI_toInt (by omega), nI_toInt (by omega)]
  exact Int.bmod_eq_of_le (by omega) (by omega)
theorem law_body {n a : Nat} {k28 : (MH × Nat × Nat × Int32) → Option MH} (hX : X.length ≤ 3073) (ha : a + 6 ≤ X.length) (hn : 2500 < n) (hR : Rel P I L R tl) (hK : ∀ I' L' R' tl', Rel P I' L' R' tl' → ∃ o, k28 (hp I' L' R' tl', 1, 114, nI a + 6) = some o) : ∃ o, bL_law_28 X n k28 (hp I L R tl) 1 114 (nI a) = some o := by
  have hend : ¬ (Int32.ofNat X.length) - (6:Int32) < nI a := by
    rw [Int32.lt_iff_toInt_lt, end_i hX, nI_toInt (by omega)]
    omega
  obtain ⟨v0, r0⟩ := rdS_y (X := X) (a := a) (i := nI a) rfl (by omega) (by omega)
  obtain ⟨v1, r1⟩ := rdS_y (X := X) (a := a + 1) (i := nI a + 1) (nI_add a 1) (by omega) (by omega)
  obtain ⟨v2, r2⟩ := rdS_y (X := X) (a := a + 2) (i := nI a + 2) (nI_add a 2) (by omega) (by omega)
  obtain ⟨v3, r3⟩ := rdS_y (X := X) (a := a + 3) (i := nI a + 3) (nI_add a 3) (by omega) (by omega)
  obtain ⟨v4, r4⟩ := rdS_y (X := X) (a := a + 4) (i := nI a + 4) (nI_add a 4) (by omega) (by omega)
  obtain ⟨v5, r5⟩ := rdS_y (X := X) (a := a + 5) (i := nI a + 5) (nI_add a 5) (by omega) (by omega)
  unfold bL_law_28
  rw [if_neg hend, r0, Option.bind_some]
  clear hend r0
  by_cases e0 : (v0 &&& (31:Int32)) = (0:Int32)
  · rw [if_pos e0]
    simp only [r1, r2, r3, Option.bind_some]
    exact law_st (K := fun h => k28 (h, 1, 114, nI a + 6)) (pSheet (P := P) (n := n) (by omega) v1 v2 v3) hR hK
  rw [if_neg e0]
  by_cases e1 : (v0 &&& (31:Int32)) = (1:Int32)
  · rw [if_pos e1]
    simp only [r1, r2, r3, r4, Option.bind_some]
    exact law_st (K := fun h => k28 (h, 1, 114, nI a + 6)) (pSet (P := P) (n := n)  v1 v2 _) hR hK
  rw [if_neg e1]
  by_cases e2 : (v0 &&& (31:Int32)) = (2:Int32)
  · rw [if_pos e2]
    simp only [r1, r2, r3, r4, r5, Option.bind_some]
    exact law_st (K := fun h => k28 (h, 1, 114, nI a + 6)) (pCopy (P := P) (n := n) (by omega) v1 v2 v3 v4 v5) hR hK
  rw [if_neg e2]
  by_cases e3 : (v0 &&& (31:Int32)) = (3:Int32)
  · rw [if_pos e3]
    simp only [r1, Option.bind_some]
    exact law_st (K := fun h => k28 (h, 1, 114, nI a + 6)) (pDrop (P := P) (n := n)  v1) hR hK
  rw [if_neg e3]
  by_cases e4 : (v0 &&& (31:Int32)) = (4:Int32)
  · rw [if_pos e4]
    simp only [r1, Option.bind_some]
    exact law_st (K := fun h => k28 (h, 1, 114, nI a + 6)) (pTrees (P := P) (n := n) (by omega) v1) hR hK
  rw [if_neg e4]
  by_cases e5 : (v0 &&& (31:Int32)) = (5:Int32)
  · rw [if_pos e5]
    simp only [r1, r2, Option.bind_some]
    exact law_st (K := fun h => k28 (h, 1, 114, nI a + 6)) (pTree (P := P) (n := n) (by omega) v1 v2) hR hK
  rw [if_neg e5]
  by_cases e6 : (v0 &&& (31:Int32)) = (6:Int32)
  · rw [if_pos e6]
    simp only [r1, r2, Option.bind_some]
    exact law_st (K := fun h => k28 (h, 1, 114, nI a + 6)) (pLevel (P := P) (n := n)  v1 v2) hR hK
  rw [if_neg e6]
  by_cases e7 : (v0 &&& (31:Int32)) = (7:Int32)
  · rw [if_pos e7]
    simp only [r1, r2, Option.bind_some]
    exact law_st (K := fun h => k28 (h, 1, 114, nI a + 6)) (pHang (P := P) (n := n) (by omega) v1 v2) hR hK
  rw [if_neg e7]
  by_cases e8 : (v0 &&& (31:Int32)) = (8:Int32)
  · rw [if_pos e8]
    simp only [r1, r2, r3, r4, Option.bind_some]
    exact law_st (K := fun h => k28 (h, 1, 114, nI a + 6)) (pTable (P := P) (n := n) (by omega) v1 v2 v3 v4) hR hK
  rw [if_neg e8]
  by_cases e9 : (v0 &&& (31:Int32)) = (9:Int32)
  · rw [if_pos e9]
    simp only [r1, r2, r3, Option.bind_some]
    exact law_st (K := fun h => k28 (h, 1, 114, nI a + 6)) (pBehind (P := P) (n := n) (by omega) v1 v2 v3) hR hK
  rw [if_neg e9]
  by_cases e10 : (v0 &&& (31:Int32)) = (10:Int32)
  · rw [if_pos e10]
    simp only [r1, r2, r3, Option.bind_some]
    exact law_st (K := fun h => k28 (h, 1, 114, nI a + 6)) (pTurn (P := P) (n := n) (by omega) v1 v2 v3) hR hK
  rw [if_neg e10]
  by_cases e11 : (v0 &&& (31:Int32)) = (11:Int32)
  · rw [if_pos e11]
    simp only [r1, r2, r3, Option.bind_some]
    exact law_st (K := fun h => k28 (h, 1, 114, nI a + 6)) (pScale (P := P) (n := n) (by omega) v1 v2 v3) hR hK
  rw [if_neg e11]
  by_cases e12 : (v0 &&& (31:Int32)) = (12:Int32)
  · rw [if_pos e12]
    simp only [r1, Option.bind_some]
    exact law_st (K := fun h => k28 (h, 1, 114, nI a + 6)) (pClear (P := P) (n := n)  v1) hR hK
  rw [if_neg e12]
  by_cases e13 : (v0 &&& (31:Int32)) = (13:Int32)
  · rw [if_pos e13]
    simp only [r1, r2, r3, Option.bind_some]
    exact law_st (K := fun h => k28 (h, 1, 114, nI a + 6)) (pNumber (P := P) (n := n)  v1 v2 v3) hR hK
  rw [if_neg e13]
  by_cases e14 : (v0 &&& (31:Int32)) = (14:Int32)
  · rw [if_pos e14]
    simp only [r1, Option.bind_some]
    exact law_st (K := fun h => k28 (h, 1, 114, nI a + 6)) (pKind (P := P) (n := n) (by omega) v1) hR hK
  rw [if_neg e14]
  by_cases e15 : (v0 &&& (31:Int32)) = (15:Int32)
  · rw [if_pos e15]
    simp only [r1, r2, Option.bind_some]
    exact law_st (K := fun h => k28 (h, 1, 114, nI a + 6)) (pIs (P := P) (n := n) (by omega) v1 v2) hR hK
  rw [if_neg e15]
  by_cases e16 : (v0 &&& (31:Int32)) = (16:Int32)
  · rw [if_pos e16]
    simp only [r1, r2, Option.bind_some]
    exact law_st (K := fun h => k28 (h, 1, 114, nI a + 6)) (pAs (P := P) (n := n) (by omega) v1 v2) hR hK
  rw [if_neg e16]
  by_cases e17 : (v0 &&& (31:Int32)) = (17:Int32)
  · rw [if_pos e17]
    simp only [r1, r2, Option.bind_some]
    exact law_st (K := fun h => k28 (h, 1, 114, nI a + 6)) (pAsk (P := P) (n := n) (by omega) v1 v2) hR hK
  rw [if_neg e17]
  by_cases e18 : (v0 &&& (31:Int32)) = (18:Int32)
  · rw [if_pos e18]
    simp only [r1, Option.bind_some]
    exact law_st (K := fun h => k28 (h, 1, 114, nI a + 6)) (pTrace (P := P) (n := n)  v1) hR hK
  rw [if_neg e18]
  by_cases e19 : (v0 &&& (31:Int32)) = (19:Int32)
  · rw [if_pos e19]
    simp only [r1, r2, Option.bind_some]
    exact law_st (K := fun h => k28 (h, 1, 114, nI a + 6)) (pWeight (P := P) (n := n) (by omega) v1 v2) hR hK
  rw [if_neg e19]
  by_cases e20 : (v0 &&& (31:Int32)) = (20:Int32)
  · rw [if_pos e20]
    simp only [r1, r2, Option.bind_some]
    exact law_st (K := fun h => k28 (h, 1, 114, nI a + 6)) (pOrder (P := P) (n := n) (by omega) v1 v2) hR hK
  rw [if_neg e20]
  by_cases e21 : (v0 &&& (31:Int32)) = (21:Int32)
  · rw [if_pos e21]
    simp only [r1, r2, r3, Option.bind_some]
    exact law_st (K := fun h => k28 (h, 1, 114, nI a + 6)) (pShare (P := P) (n := n) (by omega) v1 v2 v3) hR hK
  rw [if_neg e21]
  by_cases e22 : (v0 &&& (31:Int32)) = (22:Int32)
  · rw [if_pos e22]
    simp only [r1, r2, r3, r4, Option.bind_some]
    exact law_st (K := fun h => k28 (h, 1, 114, nI a + 6)) (pRide (P := P) (n := n) (by omega) v1 v2 v3 v4) hR hK
  rw [if_neg e22]
  by_cases e23 : (v0 &&& (31:Int32)) = (23:Int32)
  · rw [if_pos e23]
    simp only [r1, r2, r3, Option.bind_some]
    exact law_st (K := fun h => k28 (h, 1, 114, nI a + 6)) (pAlike (P := P) (n := n) (by omega) v1 v2 v3) hR hK
  rw [if_neg e23]
  by_cases e24 : (v0 &&& (31:Int32)) = (24:Int32)
  · rw [if_pos e24]
    simp only [r1, Option.bind_some]
    exact law_st (K := fun h => k28 (h, 1, 114, nI a + 6)) (pCount (P := P) (n := n) (by omega) v1) hR hK
  rw [if_neg e24]
  by_cases e25 : (v0 &&& (31:Int32)) = (25:Int32)
  · rw [if_pos e25]
    exact law_st (K := fun h => k28 (h, 1, 114, nI a + 6)) (pStatus (P := P) (n := n)) hR hK
  rw [if_neg e25]
  exact hK I L R tl hR
theorem law_run (hX : X.length ≤ 3073) : ∀ (d t n : Nat) (I : Nat → Nat → Int32) (L : Nat → Nat → Int64) (R : Nat → Option Nat) (tl : MH), 3073 ≤ 6 * (t + d) → d + 2600 < n → t ≤ 600 → Rel P I L R tl → ∃ o, lp (fun n k s => bL_law_28 X n k s.1 s.2.1 s.2.2.1 s.2.2.2) n (hp I L R tl, 1, 114, nI (1 + 6 * t)) = some o
  | d, t, n, I, L, R, tl, hd, hn, h6, hR => by
    obtain ⟨n, rfl⟩ : ∃ m, n = m + 1 := ⟨n - 1, by omega⟩
    rw [lp_succ]
    by_cases he : X.length < 1 + 6 * t + 6
    · show ∃ o, bL_law_28 X n _ (hp I L R tl) 1 114 (nI (1 + 6 * t)) = some o
      by_cases ht : 1 + 6 * t < 2 ^ 31
      · unfold bL_law_28
        rw [if_pos (by rw [Int32.lt_iff_toInt_lt, end_i hX, nI_toInt ht]; omega)]
        exact ⟨_, rfl⟩
      · exact absurd ht (by omega)
    · match d, hd, hn with
      | 0, hd, hn => exact absurd hd (by omega)
      | d + 1, hd, hn =>
        refine law_body (n := n) hX (by omega) (by omega) hR (fun I' L' R' tl' hR' => ?_)
        have := law_run hX d (t + 1) n I' L' R' tl' (by omega) (by omega) (by omega) hR'
        rw [show nI (1 + 6 * t) + 6 = nI (1 + 6 * (t + 1)) from (nI_add (1 + 6 * t) 6).trans (by rw [show 1 + 6 * t + 6 = 1 + 6 * (t + 1) by omega])]
        exact this
theorem cell_0 (X : List Int32) (hX : X.length ≤ 3073) : ∃ x, ∀ h, fL_cell X h 0 = some (h, x) := by
  by_cases e : X.length = 0
  · refine ⟨0, fun h => ?_⟩
    unfold fL_cell
    rw [e, if_pos (by decide)]
  · obtain ⟨v, hv⟩ := rdS_y (X := X) (a := 0) (i := 0) rfl (by omega) (by omega)
    refine ⟨v, fun h => ?_⟩
    unfold fL_cell
    rw [if_neg, hv]
    · rfl
    · show ¬ nI X.length ≤ nI 0
      rw [Int32.le_iff_toInt_le, nI_toInt (by omega), nI_toInt (by omega)]
      omega
theorem prP_len (P : Nat) : (prP P).length = 114 := by
  unfold prP
  rw [List.length_map, List.length_range]
theorem al_1 {α : Type} {h : MH} {c : MC} {F : MH → Nat → Option α} : alc h c F = F (h ++ [c]) h.length := rfl
def HB1 : MH := [cO 99 [], cO 11 [.null, .null, .null, .null, .null, .null, .null, .null, .int 0]]
def HB2 (v : Int64) : MH := [cO 99 [], cO 11 [.null, .null, .null, .null, .null, .null, .null, .null, .int 0], cO 3 [.long v]]
def HB3 (v : Int64) : MH := [cO 99 [], cO 11 [.ref 2, .null, .null, .null, .null, .null, .null, .null, .int 0], cO 3 [.long v]]
theorem HB_1 : ([cO 99 []] ++ [cO 11 [.null, .null, .null, .null, .null, .null, .null, .null, .int 0]] : MH) = HB1 := rfl
theorem HB_2 : HB1 ++ [cO 3 [.long 0]] = HB2 0 := rfl
theorem HB_l : HB1.length = 2 := rfl
theorem HB_0 : ([cO 99 []] : MH).length = 1 := rfl
theorem HB_p {v : Int64} : pf (HB2 0) 2 [3] 0 (.long v) = some (HB2 v) := rfl
theorem HB_q {v : Int64} : pf (HB2 v) 1 [11] 0 (.ref 2) = some (HB3 v) := rfl
theorem X_begin0 {P : Nat} {x : Int32} (p1 : ∀ h a, fMo_init 60000 h a x = (pf h a [3] 0 (.long (lN P))).bind fun h4 => some h4) : fX_init 60000 HB1 1 x = some (prP P) := by
  unfold fX_init
  rw [al_1, HB_2, HB_l, p1, HB_p, Option.bind_some, Option.bind_some, HB_q, Option.bind_some]
  exact X_made
/-- the law's function comes to its end -/
theorem law_ok (X : List Int32) (h : X.length ≤ 3073) : ∃ n o, n ≤ 60000 ∧ fL_law X n [cO 99 []] = some o := by
  obtain ⟨x, hx⟩ := cell_0 X h
  obtain ⟨P, h1, h2, p1, p2⟩ := pr_all x
  obtain ⟨o, ho⟩ := law_run h 600 0 60000 (i0 P) (l0 P) (fun _ => none) [] (by omega) (by omega) (by omega) (Rel_begin h1 h2)
  rw [show nI (1 + 6 * 0) = (1 : Int32) from rfl] at ho
  refine ⟨60000, o, Nat.le_refl _, ?_⟩
  have e2 : fM_init 60000 (prP P ++ [cO 12 [.int 0, .int 0, .int 0, .null, .null, .null, .null, .null, .null, .null, .null, .null, .null, .int 0, .null, .null, .null, .null, .null, .null]]) 114 x = some (hp (i0 P) (l0 P) (fun _ => none) []) := by
    rw [M_begin (prP_len P), p2, M_made (prP_len P), hp_begin]
  unfold fL_law
  rw [al_1, HB_1, HB_0, hx, bnd2_e, X_begin0 p1, Option.bind_some, al_1, prP_len, hx, bnd2_e, e2, Option.bind_some]
  exact ho
end LW

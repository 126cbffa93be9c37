/-! the two objects; what their fields give -/
def xObj (sta : Int32) : MC := cO 11 [.ref 2, .ref 3, .ref 87, .ref 90, .ref 93, .ref 95, .ref 112, .ref 113, .int sta]
def mO (th sta pri tra : Int32) : MC := mObj (.int th) (.int sta) (.int pri) (.int tra)
section EV
variable (a b c d v : Int32)
theorem m_c : cchk (mO a b c d) 12 = some () := rfl
theorem m_0 : vI (cgf (mO a b c d) [12] 0) = some a := rfl
theorem m_1 : vI (cgf (mO a b c d) [12] 1) = some b := rfl
theorem m_2 : vI (cgf (mO a b c d) [12] 2) = some c := rfl
theorem m_13 : vI (cgf (mO a b c d) [12] 13) = some d := rfl
theorem m_3 : vR (cgf (mO a b c d) [12] 3) = some 115 := rfl
theorem m_4 : vR (cgf (mO a b c d) [12] 4) = some 116 := rfl
theorem m_5 : vR (cgf (mO a b c d) [12] 5) = some 117 := rfl
theorem m_6 : vR (cgf (mO a b c d) [12] 6) = some 118 := rfl
theorem m_7 : vR (cgf (mO a b c d) [12] 7) = some 119 := rfl
theorem m_8 : vR (cgf (mO a b c d) [12] 8) = some 120 := rfl
theorem m_9 : vR (cgf (mO a b c d) [12] 9) = some 121 := rfl
theorem m_10 : vR (cgf (mO a b c d) [12] 10) = some 122 := rfl
theorem m_11 : vR (cgf (mO a b c d) [12] 11) = some 123 := rfl
theorem m_12 : vR (cgf (mO a b c d) [12] 12) = some 124 := rfl
theorem m_14 : vR (cgf (mO a b c d) [12] 14) = some 125 := rfl
theorem m_15 : vR (cgf (mO a b c d) [12] 15) = some 126 := rfl
theorem m_16 : vR (cgf (mO a b c d) [12] 16) = some 127 := rfl
theorem m_17 : vR (cgf (mO a b c d) [12] 17) = some 128 := rfl
theorem m_18 : vR (cgf (mO a b c d) [12] 18) = some 129 := rfl
theorem m_19 : vR (cgf (mO a b c d) [12] 19) = some 130 := rfl
theorem m_s0 : cO_set (mO a b c d) [12] 0 (.int v) = some (mO v b c d) := rfl
theorem m_s1 : cO_set (mO a b c d) [12] 1 (.int v) = some (mO a v c d) := rfl
theorem m_s13 : cO_set (mO a b c d) [12] 13 (.int v) = some (mO a b c v) := rfl
theorem x_c : cchk (xObj a) 11 = some () := rfl
theorem x_8 : vI (cgf (xObj a) [11] 8) = some a := rfl
theorem x_0 : vR (cgf (xObj a) [11] 0) = some 2 := rfl
theorem x_1 : vR (cgf (xObj a) [11] 1) = some 3 := rfl
theorem x_2 : vR (cgf (xObj a) [11] 2) = some 87 := rfl
theorem x_3 : vR (cgf (xObj a) [11] 3) = some 90 := rfl
theorem x_4 : vR (cgf (xObj a) [11] 4) = some 93 := rfl
theorem x_5 : vR (cgf (xObj a) [11] 5) = some 95 := rfl
theorem x_6 : vR (cgf (xObj a) [11] 6) = some 112 := rfl
theorem x_7 : vR (cgf (xObj a) [11] 7) = some 113 := rfl
theorem x_s8 : cO_set (xObj a) [11] 8 (.int v) = some (xObj v) := rfl
theorem bnd2_e {α β γ : Type} (x : α) (y : β) (F : α → β → Option γ) : bnd2 (some (x, y)) F = F x y := rfl
end EV
theorem ite_t {α : Type} {c : Prop} [Decidable c] {x y : α} (h : c) : (if c then x else y) = x := if_pos h
theorem retZ0 (h : MH) : retZ h 0 = some (h, 0) := if_pos (Or.inl rfl)
theorem retZ1 (h : MH) : retZ h 1 = some (h, 1) := if_pos (Or.inr rfl)
set_option maxHeartbeats 2000000 in
theorem M_wipe_10 {C : Nat → MC} {tl : MH} {a b c d : Int32} {AA BB : List Int64} (hO : C 114 = mO a b c d) (hA : C 122 = cL AA) (lA : AA.length = 704) (hB : C 123 = cL BB) (lB : BB.length = 88) {n : Nat} (hn : 200 < n) : ∃ A' B', fM_wipe_10 n (pr C ++ tl) 114 0 = some (pr (up (up C 122 (cL A')) 123 (cL B')) ++ tl) ∧ A'.length = 704 ∧ B'.length = 88 ∧ (∀ j, A'.getD j 0 = if 640 ≤ j ∧ j < 704 then 0 else AA.getD j 0) ∧ ∀ j, B'.getD j 0 = if 80 ≤ j ∧ j < 88 then 0 else BB.getD j 0 := by
  unfold fM_wipe_10
  refine Exists.elim (lp_for0 (B := fun n k s => bM_wipe_10 n k s.1 s.2.1 s.2.2) (fun i s => ∃ L : List Int64, s = (pr (up C 122 (cL L)) ++ tl, 114, nI i) ∧ L.length = 704 ∧ ∀ j, L.getD j 0 = if 640 ≤ j ∧ j < 640 + i then 0 else AA.getD j 0) 100 64 (fun s => fM_wipe_35 100 s.1 114 0) ?_ ?_ (n := n) (s := (pr C ++ tl, 114, 0)) ⟨AA, by rw [up_id C 122 hA]; rfl, lA, fun j => by rw [if_neg (by omega)]⟩ (by omega)) ?_
  · rintro i hi s ⟨L, rfl, hl, hL⟩
    refine ⟨(pr (up C 122 (cL (L.set (640 + i) 0))) ++ tl, 114, nI (i + 1)), ⟨_, rfl, by rw [List.length_set]; exact hl, fun j => ?_⟩, fun n k _ => ?_⟩
    · rw [sD (by omega), hL j]
      split <;> split <;> split <;> first | rfl | omega
    · simp (disch := omega) only [bM_wipe_10, lit32, nI_leI, nI_add, gfR_pr, wrL_pr, up_app, hO, m_10, Option.bind_some, cL_set_e, wu_some, up_up]
      sorry
  · sorry
  · sorry

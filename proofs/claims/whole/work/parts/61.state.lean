/-! the heap behind both constructors, told by three functions: ints, longs, the shelf; the tables' cells behind -/
def fa {α : Type} (N : Nat) (f : Nat → α) : List α := (List.range N).map f
def fu {α : Type} (f : Nat → α) (j : Nat) (v : α) : Nat → α := fun i => if i = j then v else f i
def uA {α : Type} (L : Nat → α) (a : Nat) (f : α) : Nat → α := fun b => if b = a then f else L b
theorem fa_len {α : Type} (N : Nat) (f : Nat → α) : (fa N f).length = N := by simp [fa]
theorem fa_get {α : Type} {N : Nat} {f : Nat → α} {j : Nat} (h : j < N) : (fa N f)[j]? = some (f j) := by
  unfold fa
  rw [List.getElem?_map, List.getElem?_range h]
  rfl
theorem fa_set {α : Type} {N : Nat} {f : Nat → α} {j : Nat} {v : α} : (fa N f).set j v = fa N (fu f j v) := by
  apply List.ext_getElem?
  intro i
  by_cases hi : i < N
  · rw [fa_get hi, List.getElem?_set]
    by_cases e : j = i
    · subst e
      simp [fu, hi, fa_len]
    · simp [fu, e, Ne.symm e, fa_get hi]
  · rw [List.getElem?_eq_none (by rw [List.length_set, fa_len]; omega), List.getElem?_eq_none (by rw [fa_len]; omega)]
theorem fa_ext {α : Type} {N : Nat} {f g : Nat → α} (h : ∀ i, i < N → f i = g i) : fa N f = fa N g := List.map_congr_left fun i hi => h i (List.mem_range.mp hi)
theorem fu_fu {α : Type} (f : Nat → α) (j : Nat) (v w : α) : fu (fu f j v) j w = fu f j w := by
  funext i
  unfold fu
  split <;> rfl
theorem fu_eq {α : Type} (f : Nat → α) (j : Nat) (v : α) : fu f j v j = v := if_pos rfl
theorem fu_ne {α : Type} {f : Nat → α} {i j : Nat} {v : α} (h : ¬ i = j) : fu f j v i = f i := if_neg h
theorem uA_eq {α : Type} (L : Nat → α) (a : Nat) (f : α) : uA L a f a = f := if_pos rfl
theorem uA_ne {α : Type} {L : Nat → α} {a b : Nat} {f : α} (h : ¬ b = a) : uA L a f b = L b := if_neg h
theorem uA_uA {α : Type} (L : Nat → α) (a : Nat) (f g : α) : uA (uA L a f) a g = uA L a g := by
  funext b
  unfold uA
  split <;> rfl
theorem uA_id {α : Type} (L : Nat → α) (a : Nat) : uA L a (L a) = L := by
  funext b
  unfold uA
  split
  · rename_i e; rw [e]
  · rfl
/-- what both sides note of a call -/
def stA (I : Nat → Nat → Int32) (v : Int32) : Nat → Nat → Int32 := uA I 1 (fu (I 1) 8 v)
def stB (I : Nat → Nat → Int32) (v : Int32) : Nat → Nat → Int32 := uA I 114 (fu (I 114) 1 v)
section ST
variable {I : Nat → Nat → Int32} {v w : Int32} {a k : Nat}
theorem stA_ne (h : ¬ a = 1) : stA I v a = I a := uA_ne h
theorem stA_8 : stA I v 1 8 = v := by unfold stA; rw [uA_eq, fu_eq]
theorem stB_ne (h : ¬ a = 114) : stB I v a = I a := uA_ne h
theorem stB_1 : stB I v 114 1 = v := by unfold stB; rw [uA_eq, fu_eq]
theorem stB_o (h : ¬ k = 1) : stB I v 114 k = I 114 k := by unfold stB; rw [uA_eq, fu_ne h]
theorem stA_stA : stA (stA I v) w = stA I w := by unfold stA; rw [uA_eq, uA_uA, fu_fu]
theorem stB_stB : stB (stB I v) w = stB I w := by unfold stB; rw [uA_eq, uA_uA, fu_fu]
end ST
def xObj (sta : Int32) : MC := cO 11 [.ref 2, .ref 3, .ref 87, .ref 90, .ref 93, .ref 95, .ref 112, .ref 113, .int sta]
def shL : List (Option Nat) := [some 96, some 98, some 100, some 102, some 104, some 106, some 108, some 110]
def cel (i : Nat → Int32) (l : Nat → Int64) (R : Nat → Option Nat) (a : Nat) : MC :=
  if a < 3 then (if a = 0 then cO 99 [] else if a = 1 then xObj (i 8) else cO 3 [.long (l 0)])
  else if a < 87 then XFO.getD (a - 3) (cO 99 [])
  else if a < 91 then (if a = 87 then cO 10 [.ref 2, .ref 3, .ref 88, .ref 89] else if a = 88 then cL (fa 296 l) else if a = 89 then cL (fa 296 l) else cO 5 [.ref 2, .ref 91, .ref 92])
  else if a < 96 then (if a = 91 then cL (fa 64 l) else if a = 92 then cL (fa 64 l) else if a = 93 then cO 9 [.ref 94, .int (i 1)] else if a = 94 then cI (fa 16 i) else cR 3 shL)
  else if a < 112 then (if a % 2 = 0 then cO 6 [.ref (a + 1), .int (i 1), .int (i 2)] else cL (fa 80 l))
  else if a < 117 then (if a = 112 then cR 4 (fa 10 R) else if a = 113 then cL (fa 8 l) else if a = 114 then mObj (.int (i 0)) (.int (i 1)) (.int (i 2)) (.int (i 13)) else if a = 115 then cI MKN else cI MLV)
  else if a < 122 then (if a = 117 then cI (fa 6 i) else if a = 118 then cI (fa 8 i) else if a = 119 then cI (fa 8 i) else if a = 120 then cL (fa 640 l) else cI (fa 11 i))
  else if a < 126 then (if a = 122 then cL (fa 704 l) else if a = 123 then cL (fa 88 l) else if a = 124 then cI (fa 16 i) else cL (fa 48 l))
  else if a < 129 then cL (fa 64 l) else cL (fa 9 l)
def hp (I : Nat → Nat → Int32) (L : Nat → Nat → Int64) (R : Nat → Option Nat) (tl : MH) : MH := pr (fun a => cel (I a) (L a) R a) ++ tl
section HP
variable {I : Nat → Nat → Int32} {L : Nat → Nat → Int64} {R : Nat → Option Nat} {tl : MH}
theorem hp_get {a : Nat} (h : a < 131) : (hp I L R tl)[a]? = some (cel (I a) (L a) R a) := pr_get h
theorem hp_len : (hp I L R tl).length = 131 + tl.length := pr_full
theorem hp_tail {j : Nat} : (hp I L R tl)[131 + j]? = tl[j]? := pr_tail
theorem hp_app {l : MH} : hp I L R tl ++ l = hp I L R (tl ++ l) := List.append_assoc _ _ _
theorem hp_setI {a : Nat} {f : Nat → Int32} {c : MC} (h : a < 131) (e : cel f (L a) R a = c) : (hp I L R tl).set a c = hp (uA I a f) L R tl := by
  unfold hp
  rw [pr_set h]
  congr 2
  funext b
  unfold up
  split
  · rename_i e1; subst e1; rw [uA_eq, e]
  · rename_i e1; rw [uA_ne e1]
theorem hp_setL {a : Nat} {f : Nat → Int64} {c : MC} (h : a < 131) (e : cel (I a) f R a = c) : (hp I L R tl).set a c = hp I (uA L a f) R tl := by
  unfold hp
  rw [pr_set h]
  congr 2
  funext b
  unfold up
  split
  · rename_i e1; subst e1; rw [uA_eq, e]
  · rename_i e1; rw [uA_ne e1]
theorem hp_setR {f : Nat → Option Nat} {c : MC} (e : c = cR 4 (fa 10 f)) : (hp I L R tl).set 112 c = hp I L f tl := by
  unfold hp
  rw [pr_set (by omega)]
  congr 2
  funext b
  unfold up
  split
  · rename_i e1; subst e1; rw [e]; rfl
  · rename_i e1
    unfold cel
    simp only [e1, if_false]
theorem rI_g {a N j : Nat} (h : a < 131) (e : cel (I a) (L a) R a = cI (fa N (I a))) (hN : N < 2 ^ 31) (hj : j < N) : rdI (hp I L R tl) a (nI j) = some (I a j) := by
  unfold rdI
  rw [hp_get h, e]
  simp only [nI_pos (show j < 2 ^ 31 by omega), if_false, nI_clamp (show j < 2 ^ 31 by omega), fa_get hj]
theorem rL_g {a N j : Nat} (h : a < 131) (e : cel (I a) (L a) R a = cL (fa N (L a))) (hN : N < 2 ^ 31) (hj : j < N) : rdL (hp I L R tl) a (nI j) = some (L a j) := by
  unfold rdL
  rw [hp_get h, e]
  simp only [nI_pos (show j < 2 ^ 31 by omega), if_false, nI_clamp (show j < 2 ^ 31 by omega), fa_get hj]
theorem rC_g {a N j : Nat} {l : List Int32} (h : a < 131) (e : cel (I a) (L a) R a = cI l) (hl : l.length = N) (hN : N < 2 ^ 31) (hj : j < N) : rdI (hp I L R tl) a (nI j) = some (l.getD j 0) := by
  unfold rdI
  rw [hp_get h, e]
  simp only [nI_pos (show j < 2 ^ 31 by omega), if_false, nI_clamp (show j < 2 ^ 31 by omega), lD (0 : Int32) (show j < l.length by omega)]
theorem wI_g {a N j : Nat} {v : Int32} (h : a < 131) (e : ∀ f : Nat → Int32, cel f (L a) R a = cI (fa N f)) (hN : N < 2 ^ 31) (hj : j < N) : wrI (hp I L R tl) a (nI j) v = some (hp (uA I a (fu (I a) j v)) L R tl) := by
  unfold wrI
  rw [hp_get h, e]
  simp only [nI_clamp (show j < 2 ^ 31 by omega), fa_len]
  rw [if_neg (fun q => q.elim (nI_pos (show j < 2 ^ 31 by omega)) (by omega)), fa_set, hp_setI h (e _)]
theorem wL_g {a N j : Nat} {v : Int64} (h : a < 131) (e : ∀ f : Nat → Int64, cel (I a) f R a = cL (fa N f)) (hN : N < 2 ^ 31) (hj : j < N) : wrL (hp I L R tl) a (nI j) v = some (hp I (uA L a (fu (L a) j v)) R tl) := by
  unfold wrL
  rw [hp_get h, e]
  simp only [nI_clamp (show j < 2 ^ 31 by omega), fa_len]
  rw [if_neg (fun q => q.elim (nI_pos (show j < 2 ^ 31 by omega)) (by omega)), fa_set, hp_setL h (e _)]
theorem gf_g {a : Nat} {S : List Nat} {k : Nat} (h : a < 131) : gf (hp I L R tl) a S k = cgf (cel (I a) (L a) R a) S k := gf_pr h
theorem gfI_g {a : Nat} {S : List Nat} {k : Nat} {v : Int32} (h : a < 131) (e : cgf (cel (I a) (L a) R a) S k = some (.int v)) : gfI (hp I L R tl) a S k = some v := by
  unfold gfI
  rw [gf_g h, e]
theorem gfL_g {a : Nat} {S : List Nat} {k : Nat} {v : Int64} (h : a < 131) (e : cgf (cel (I a) (L a) R a) S k = some (.long v)) : gfL (hp I L R tl) a S k = some v := by
  unfold gfL
  rw [gf_g h, e]
theorem gfR_g {a : Nat} {S : List Nat} {k : Nat} {v : Nat} (h : a < 131) (e : cgf (cel (I a) (L a) R a) S k = some (.ref v)) : gfR (hp I L R tl) a S k = some v := by
  unfold gfR
  rw [gf_g h, e]
theorem chk_g {a t : Nat} (h : a < 131) (e : cchk (cel (I a) (L a) R a) t = some ()) : chk (hp I L R tl) a t = some () := (chk_pr h).trans e
theorem pfI_g {a : Nat} {S : List Nat} {k j : Nat} {v : Int32} (h : a < 131) (e : cO_set (cel (I a) (L a) R a) S k (.int v) = some (cel (fu (I a) j v) (L a) R a)) : pf (hp I L R tl) a S k (.int v) = some (hp (uA I a (fu (I a) j v)) L R tl) := by
  unfold hp
  rw [pf_pr h, e, wu_some]
  rw [← pr_set h, show pr (fun a => cel (I a) (L a) R a) ++ tl = hp I L R tl from rfl, hp_setI h rfl]
  rfl
theorem rL_88 {j : Nat} (h : j < 296) : rdL (hp I L R tl) 88 (nI j) = some (L 88 j) := rL_g (N := 296) (by omega) rfl (by omega) h
theorem wL_88 {j : Nat} {v : Int64} (h : j < 296) : wrL (hp I L R tl) 88 (nI j) v = some (hp I (uA L 88 (fu (L 88) j v)) R tl) := wL_g (N := 296) (by omega) (fun _ => rfl) (by omega) h
theorem rL_89 {j : Nat} (h : j < 296) : rdL (hp I L R tl) 89 (nI j) = some (L 89 j) := rL_g (N := 296) (by omega) rfl (by omega) h
theorem wL_89 {j : Nat} {v : Int64} (h : j < 296) : wrL (hp I L R tl) 89 (nI j) v = some (hp I (uA L 89 (fu (L 89) j v)) R tl) := wL_g (N := 296) (by omega) (fun _ => rfl) (by omega) h
theorem rL_91 {j : Nat} (h : j < 64) : rdL (hp I L R tl) 91 (nI j) = some (L 91 j) := rL_g (N := 64) (by omega) rfl (by omega) h
theorem wL_91 {j : Nat} {v : Int64} (h : j < 64) : wrL (hp I L R tl) 91 (nI j) v = some (hp I (uA L 91 (fu (L 91) j v)) R tl) := wL_g (N := 64) (by omega) (fun _ => rfl) (by omega) h
theorem rL_92 {j : Nat} (h : j < 64) : rdL (hp I L R tl) 92 (nI j) = some (L 92 j) := rL_g (N := 64) (by omega) rfl (by omega) h
theorem wL_92 {j : Nat} {v : Int64} (h : j < 64) : wrL (hp I L R tl) 92 (nI j) v = some (hp I (uA L 92 (fu (L 92) j v)) R tl) := wL_g (N := 64) (by omega) (fun _ => rfl) (by omega) h
theorem rL_113 {j : Nat} (h : j < 8) : rdL (hp I L R tl) 113 (nI j) = some (L 113 j) := rL_g (N := 8) (by omega) rfl (by omega) h
theorem wL_113 {j : Nat} {v : Int64} (h : j < 8) : wrL (hp I L R tl) 113 (nI j) v = some (hp I (uA L 113 (fu (L 113) j v)) R tl) := wL_g (N := 8) (by omega) (fun _ => rfl) (by omega) h
theorem rL_120 {j : Nat} (h : j < 640) : rdL (hp I L R tl) 120 (nI j) = some (L 120 j) := rL_g (N := 640) (by omega) rfl (by omega) h
theorem wL_120 {j : Nat} {v : Int64} (h : j < 640) : wrL (hp I L R tl) 120 (nI j) v = some (hp I (uA L 120 (fu (L 120) j v)) R tl) := wL_g (N := 640) (by omega) (fun _ => rfl) (by omega) h
theorem rL_122 {j : Nat} (h : j < 704) : rdL (hp I L R tl) 122 (nI j) = some (L 122 j) := rL_g (N := 704) (by omega) rfl (by omega) h
theorem wL_122 {j : Nat} {v : Int64} (h : j < 704) : wrL (hp I L R tl) 122 (nI j) v = some (hp I (uA L 122 (fu (L 122) j v)) R tl) := wL_g (N := 704) (by omega) (fun _ => rfl) (by omega) h
theorem rL_123 {j : Nat} (h : j < 88) : rdL (hp I L R tl) 123 (nI j) = some (L 123 j) := rL_g (N := 88) (by omega) rfl (by omega) h
theorem wL_123 {j : Nat} {v : Int64} (h : j < 88) : wrL (hp I L R tl) 123 (nI j) v = some (hp I (uA L 123 (fu (L 123) j v)) R tl) := wL_g (N := 88) (by omega) (fun _ => rfl) (by omega) h
theorem rL_125 {j : Nat} (h : j < 48) : rdL (hp I L R tl) 125 (nI j) = some (L 125 j) := rL_g (N := 48) (by omega) rfl (by omega) h
theorem wL_125 {j : Nat} {v : Int64} (h : j < 48) : wrL (hp I L R tl) 125 (nI j) v = some (hp I (uA L 125 (fu (L 125) j v)) R tl) := wL_g (N := 48) (by omega) (fun _ => rfl) (by omega) h
theorem rL_126 {j : Nat} (h : j < 64) : rdL (hp I L R tl) 126 (nI j) = some (L 126 j) := rL_g (N := 64) (by omega) rfl (by omega) h
theorem wL_126 {j : Nat} {v : Int64} (h : j < 64) : wrL (hp I L R tl) 126 (nI j) v = some (hp I (uA L 126 (fu (L 126) j v)) R tl) := wL_g (N := 64) (by omega) (fun _ => rfl) (by omega) h
theorem rL_127 {j : Nat} (h : j < 64) : rdL (hp I L R tl) 127 (nI j) = some (L 127 j) := rL_g (N := 64) (by omega) rfl (by omega) h
theorem wL_127 {j : Nat} {v : Int64} (h : j < 64) : wrL (hp I L R tl) 127 (nI j) v = some (hp I (uA L 127 (fu (L 127) j v)) R tl) := wL_g (N := 64) (by omega) (fun _ => rfl) (by omega) h
theorem rL_128 {j : Nat} (h : j < 64) : rdL (hp I L R tl) 128 (nI j) = some (L 128 j) := rL_g (N := 64) (by omega) rfl (by omega) h
theorem wL_128 {j : Nat} {v : Int64} (h : j < 64) : wrL (hp I L R tl) 128 (nI j) v = some (hp I (uA L 128 (fu (L 128) j v)) R tl) := wL_g (N := 64) (by omega) (fun _ => rfl) (by omega) h
theorem rL_129 {j : Nat} (h : j < 9) : rdL (hp I L R tl) 129 (nI j) = some (L 129 j) := rL_g (N := 9) (by omega) rfl (by omega) h
theorem wL_129 {j : Nat} {v : Int64} (h : j < 9) : wrL (hp I L R tl) 129 (nI j) v = some (hp I (uA L 129 (fu (L 129) j v)) R tl) := wL_g (N := 9) (by omega) (fun _ => rfl) (by omega) h
theorem rL_130 {j : Nat} (h : j < 9) : rdL (hp I L R tl) 130 (nI j) = some (L 130 j) := rL_g (N := 9) (by omega) rfl (by omega) h
theorem wL_130 {j : Nat} {v : Int64} (h : j < 9) : wrL (hp I L R tl) 130 (nI j) v = some (hp I (uA L 130 (fu (L 130) j v)) R tl) := wL_g (N := 9) (by omega) (fun _ => rfl) (by omega) h
theorem rI_94 {j : Nat} (h : j < 16) : rdI (hp I L R tl) 94 (nI j) = some (I 94 j) := rI_g (N := 16) (by omega) rfl (by omega) h
theorem wI_94 {j : Nat} {v : Int32} (h : j < 16) : wrI (hp I L R tl) 94 (nI j) v = some (hp (uA I 94 (fu (I 94) j v)) L R tl) := wI_g (N := 16) (by omega) (fun _ => rfl) (by omega) h
theorem rI_117 {j : Nat} (h : j < 6) : rdI (hp I L R tl) 117 (nI j) = some (I 117 j) := rI_g (N := 6) (by omega) rfl (by omega) h
theorem wI_117 {j : Nat} {v : Int32} (h : j < 6) : wrI (hp I L R tl) 117 (nI j) v = some (hp (uA I 117 (fu (I 117) j v)) L R tl) := wI_g (N := 6) (by omega) (fun _ => rfl) (by omega) h
theorem rI_118 {j : Nat} (h : j < 8) : rdI (hp I L R tl) 118 (nI j) = some (I 118 j) := rI_g (N := 8) (by omega) rfl (by omega) h
theorem wI_118 {j : Nat} {v : Int32} (h : j < 8) : wrI (hp I L R tl) 118 (nI j) v = some (hp (uA I 118 (fu (I 118) j v)) L R tl) := wI_g (N := 8) (by omega) (fun _ => rfl) (by omega) h
theorem rI_119 {j : Nat} (h : j < 8) : rdI (hp I L R tl) 119 (nI j) = some (I 119 j) := rI_g (N := 8) (by omega) rfl (by omega) h
theorem wI_119 {j : Nat} {v : Int32} (h : j < 8) : wrI (hp I L R tl) 119 (nI j) v = some (hp (uA I 119 (fu (I 119) j v)) L R tl) := wI_g (N := 8) (by omega) (fun _ => rfl) (by omega) h
theorem rI_121 {j : Nat} (h : j < 11) : rdI (hp I L R tl) 121 (nI j) = some (I 121 j) := rI_g (N := 11) (by omega) rfl (by omega) h
theorem wI_121 {j : Nat} {v : Int32} (h : j < 11) : wrI (hp I L R tl) 121 (nI j) v = some (hp (uA I 121 (fu (I 121) j v)) L R tl) := wI_g (N := 11) (by omega) (fun _ => rfl) (by omega) h
theorem rI_124 {j : Nat} (h : j < 16) : rdI (hp I L R tl) 124 (nI j) = some (I 124 j) := rI_g (N := 16) (by omega) rfl (by omega) h
theorem wI_124 {j : Nat} {v : Int32} (h : j < 16) : wrI (hp I L R tl) 124 (nI j) v = some (hp (uA I 124 (fu (I 124) j v)) L R tl) := wI_g (N := 16) (by omega) (fun _ => rfl) (by omega) h
def knN (t : Nat) : Nat := [1, 2, 3, 3, 4, 4, 4, 4, 5, 5, 5, 5, 5, 5, 5, 5, 5, 6, 6, 6, 6, 6, 6, 6, 6, 6, 6, 6, 6, 6, 6, 6, 6, 6, 6, 6, 6, 0].getD t 0
def syN (t : Nat) : Nat := [1, 1, 1, 2, 1, 2, 1, 6, 1, 2, 1, 1, 6, 2, 2, 2, 24, 1, 2, 1, 1, 1, 6, 2, 2, 2, 2, 1, 1, 2, 24, 6, 2, 4, 2, 6, 120].getD t 0
def deN (t : Nat) : Nat := [1, 2, 6, 3, 24, 12, 8, 4, 120, 60, 40, 30, 20, 15, 20, 10, 5, 720, 360, 240, 180, 144, 120, 90, 72, 120, 60, 48, 72, 36, 30, 24, 36, 18, 24, 12, 6].getD t 0
def brN (t : Nat) : Nat := [0, 1, 1, 2, 1, 1, 2, 3, 1, 1, 1, 2, 1, 2, 2, 3, 4, 1, 1, 1, 1, 2, 1, 1, 2, 1, 1, 2, 2, 3, 1, 2, 2, 3, 3, 4, 5].getD t 0
def reN (t : Nat) : Nat := [0, 0, 0, 1, 0, 0, 2, 3, 0, 0, 0, 4, 0, 5, 2, 6, 7, 0, 0, 0, 0, 8, 0, 0, 9, 0, 0, 10, 4, 11, 0, 12, 5, 13, 14, 15, 16].getD t 0
def laN (t : Nat) : Nat := [0, 0, 1, 0, 2, 3, 0, 0, 4, 5, 6, 0, 7, 0, 1, 0, 0, 8, 9, 10, 11, 0, 12, 13, 0, 14, 15, 0, 1, 0, 16, 0, 1, 0, 0, 0, 0].getD t 0
def lvN (t : Nat) : Nat := [0, 0, 0, 0, 0, 0, 0, 1, 0, 0, 0, 0, 0, 1, 2, 0, 0, 0, 0, 1, 1, 0, 0, 0, 0, 1, 2, 3, 0, 0, 0, 1, 2, 2, 0, 0, 0, 1, 2, 1, 0, 0, 0, 1, 1, 1, 0, 0, 0, 1, 2, 3, 4, 0, 0, 1, 2, 3, 3, 0, 0, 1, 2, 3, 2, 0, 0, 1, 2, 3, 1, 0, 0, 1, 2, 2, 2, 0, 0, 1, 2, 2, 1, 0, 0, 1, 2, 1, 2, 0, 0, 1, 2, 1, 1, 0, 0, 1, 1, 1, 1, 0, 0, 1, 2, 3, 4, 5, 0, 1, 2, 3, 4, 4, 0, 1, 2, 3, 4, 3, 0, 1, 2, 3, 4, 2, 0, 1, 2, 3, 4, 1, 0, 1, 2, 3, 3, 3, 0, 1, 2, 3, 3, 2, 0, 1, 2, 3, 3, 1, 0, 1, 2, 3, 2, 3, 0, 1, 2, 3, 2, 2, 0, 1, 2, 3, 2, 1, 0, 1, 2, 3, 1, 2, 0, 1, 2, 3, 1, 1, 0, 1, 2, 2, 2, 2, 0, 1, 2, 2, 2, 1, 0, 1, 2, 2, 1, 2, 0, 1, 2, 2, 1, 1, 0, 1, 2, 1, 2, 1, 0, 1, 2, 1, 1, 1, 0, 1, 1, 1, 1, 1, 0, 0, 0, 0, 0, 0, 0, 0, 0, 0, 0, 0].getD t 0
theorem t_42 : ∀ j, j < 37 → XKN.getD j 0 = nI (knN j) := by decide +kernel
theorem rI_42 {j : Nat} (h : j < 37) : rdI (hp I L R tl) 42 (nI j) = some (nI (knN j)) := (rC_g (N := 37) (by omega) rfl rfl (by omega) h).trans (congrArg some (t_42 j h))
theorem t_43 : ∀ j, j < 37 → XSY.getD j 0 = nI (syN j) := by decide +kernel
theorem rI_43 {j : Nat} (h : j < 37) : rdI (hp I L R tl) 43 (nI j) = some (nI (syN j)) := (rC_g (N := 37) (by omega) rfl rfl (by omega) h).trans (congrArg some (t_43 j h))
theorem t_44 : ∀ j, j < 37 → XDE.getD j 0 = nI (deN j) := by decide +kernel
theorem rI_44 {j : Nat} (h : j < 37) : rdI (hp I L R tl) 44 (nI j) = some (nI (deN j)) := (rC_g (N := 37) (by omega) rfl rfl (by omega) h).trans (congrArg some (t_44 j h))
theorem t_45 : ∀ j, j < 37 → XBR.getD j 0 = nI (brN j) := by decide +kernel
theorem rI_45 {j : Nat} (h : j < 37) : rdI (hp I L R tl) 45 (nI j) = some (nI (brN j)) := (rC_g (N := 37) (by omega) rfl rfl (by omega) h).trans (congrArg some (t_45 j h))
theorem t_46 : ∀ j, j < 37 → XRE.getD j 0 = nI (reN j) := by decide +kernel
theorem rI_46 {j : Nat} (h : j < 37) : rdI (hp I L R tl) 46 (nI j) = some (nI (reN j)) := (rC_g (N := 37) (by omega) rfl rfl (by omega) h).trans (congrArg some (t_46 j h))
theorem t_47 : ∀ j, j < 37 → XLA.getD j 0 = nI (laN j) := by decide +kernel
theorem rI_47 {j : Nat} (h : j < 37) : rdI (hp I L R tl) 47 (nI j) = some (nI (laN j)) := (rC_g (N := 37) (by omega) rfl rfl (by omega) h).trans (congrArg some (t_47 j h))
theorem t_115 : ∀ j, j < 38 → MKN.getD j 0 = nI (knN j) := by decide +kernel
theorem rI_115 {j : Nat} (h : j < 38) : rdI (hp I L R tl) 115 (nI j) = some (nI (knN j)) := (rC_g (N := 38) (by omega) rfl rfl (by omega) h).trans (congrArg some (t_115 j h))
theorem t_116 : ∀ j, j < 234 → MLV.getD j 0 = nI (lvN j) := by decide +kernel
theorem rI_116 {j : Nat} (h : j < 234) : rdI (hp I L R tl) 116 (nI j) = some (nI (lvN j)) := (rC_g (N := 234) (by omega) rfl rfl (by omega) h).trans (congrArg some (t_116 j h))
theorem o_1_0 : gfR (hp I L R tl) 1 [11] 0 = some 2 := gfR_g (by omega) rfl
theorem o_1_1 : gfR (hp I L R tl) 1 [11] 1 = some 3 := gfR_g (by omega) rfl
theorem o_1_2 : gfR (hp I L R tl) 1 [11] 2 = some 87 := gfR_g (by omega) rfl
theorem o_1_3 : gfR (hp I L R tl) 1 [11] 3 = some 90 := gfR_g (by omega) rfl
theorem o_1_4 : gfR (hp I L R tl) 1 [11] 4 = some 93 := gfR_g (by omega) rfl
theorem o_1_5 : gfR (hp I L R tl) 1 [11] 5 = some 95 := gfR_g (by omega) rfl
theorem o_1_6 : gfR (hp I L R tl) 1 [11] 6 = some 112 := gfR_g (by omega) rfl
theorem o_1_7 : gfR (hp I L R tl) 1 [11] 7 = some 113 := gfR_g (by omega) rfl
theorem c_1 : chk (hp I L R tl) 1 11 = some () := chk_g (by omega) rfl
theorem o_87_0 : gfR (hp I L R tl) 87 [10] 0 = some 2 := gfR_g (by omega) rfl
theorem o_87_1 : gfR (hp I L R tl) 87 [10] 1 = some 3 := gfR_g (by omega) rfl
theorem o_87_2 : gfR (hp I L R tl) 87 [10] 2 = some 88 := gfR_g (by omega) rfl
theorem o_87_3 : gfR (hp I L R tl) 87 [10] 3 = some 89 := gfR_g (by omega) rfl
theorem c_87 : chk (hp I L R tl) 87 10 = some () := chk_g (by omega) rfl
theorem o_90_0 : gfR (hp I L R tl) 90 [5] 0 = some 2 := gfR_g (by omega) rfl
theorem o_90_1 : gfR (hp I L R tl) 90 [5] 1 = some 91 := gfR_g (by omega) rfl
theorem o_90_2 : gfR (hp I L R tl) 90 [5] 2 = some 92 := gfR_g (by omega) rfl
theorem c_90 : chk (hp I L R tl) 90 5 = some () := chk_g (by omega) rfl
theorem o_93_0 : gfR (hp I L R tl) 93 [9] 0 = some 94 := gfR_g (by omega) rfl
theorem c_93 : chk (hp I L R tl) 93 9 = some () := chk_g (by omega) rfl
theorem o_3_0 : gfR (hp I L R tl) 3 [0] 0 = some 4 := gfR_g (by omega) rfl
theorem o_3_1 : gfR (hp I L R tl) 3 [0] 1 = some 42 := gfR_g (by omega) rfl
theorem o_3_2 : gfR (hp I L R tl) 3 [0] 2 = some 43 := gfR_g (by omega) rfl
theorem o_3_3 : gfR (hp I L R tl) 3 [0] 3 = some 44 := gfR_g (by omega) rfl
theorem o_3_4 : gfR (hp I L R tl) 3 [0] 4 = some 45 := gfR_g (by omega) rfl
theorem o_3_5 : gfR (hp I L R tl) 3 [0] 5 = some 46 := gfR_g (by omega) rfl
theorem o_3_6 : gfR (hp I L R tl) 3 [0] 6 = some 47 := gfR_g (by omega) rfl
theorem o_3_7 : gfR (hp I L R tl) 3 [0] 7 = some 48 := gfR_g (by omega) rfl
theorem o_3_8 : gfR (hp I L R tl) 3 [0] 8 = some 86 := gfR_g (by omega) rfl
theorem c_3 : chk (hp I L R tl) 3 0 = some () := chk_g (by omega) rfl
theorem o_114_3 : gfR (hp I L R tl) 114 [12] 3 = some 115 := gfR_g (by omega) rfl
theorem o_114_4 : gfR (hp I L R tl) 114 [12] 4 = some 116 := gfR_g (by omega) rfl
theorem o_114_5 : gfR (hp I L R tl) 114 [12] 5 = some 117 := gfR_g (by omega) rfl
theorem o_114_6 : gfR (hp I L R tl) 114 [12] 6 = some 118 := gfR_g (by omega) rfl
theorem o_114_7 : gfR (hp I L R tl) 114 [12] 7 = some 119 := gfR_g (by omega) rfl
theorem o_114_8 : gfR (hp I L R tl) 114 [12] 8 = some 120 := gfR_g (by omega) rfl
theorem o_114_9 : gfR (hp I L R tl) 114 [12] 9 = some 121 := gfR_g (by omega) rfl
theorem o_114_10 : gfR (hp I L R tl) 114 [12] 10 = some 122 := gfR_g (by omega) rfl
theorem o_114_11 : gfR (hp I L R tl) 114 [12] 11 = some 123 := gfR_g (by omega) rfl
theorem o_114_12 : gfR (hp I L R tl) 114 [12] 12 = some 124 := gfR_g (by omega) rfl
theorem o_114_14 : gfR (hp I L R tl) 114 [12] 14 = some 125 := gfR_g (by omega) rfl
theorem o_114_15 : gfR (hp I L R tl) 114 [12] 15 = some 126 := gfR_g (by omega) rfl
theorem o_114_16 : gfR (hp I L R tl) 114 [12] 16 = some 127 := gfR_g (by omega) rfl
theorem o_114_17 : gfR (hp I L R tl) 114 [12] 17 = some 128 := gfR_g (by omega) rfl
theorem o_114_18 : gfR (hp I L R tl) 114 [12] 18 = some 129 := gfR_g (by omega) rfl
theorem o_114_19 : gfR (hp I L R tl) 114 [12] 19 = some 130 := gfR_g (by omega) rfl
theorem c_114 : chk (hp I L R tl) 114 12 = some () := chk_g (by omega) rfl
theorem c_2 : chk (hp I L R tl) 2 3 = some () := chk_g (by omega) rfl
theorem o_2_0 : gfL (hp I L R tl) 2 [3] 0 = some (L 2 0) := gfL_g (by omega) rfl
theorem o_1_8 : gfI (hp I L R tl) 1 [11] 8 = some (I 1 8) := gfI_g (by omega) rfl
theorem p_1_8 {v : Int32} : pf (hp I L R tl) 1 [11] 8 (.int v) = some (hp (stA I v) L R tl) := pfI_g (by omega) rfl
theorem o_93_1 : gfI (hp I L R tl) 93 [9] 1 = some (I 93 1) := gfI_g (by omega) rfl
theorem p_93_1 {v : Int32} : pf (hp I L R tl) 93 [9] 1 (.int v) = some (hp (uA I 93 (fu (I 93) 1 v)) L R tl) := pfI_g (by omega) rfl
theorem o_114_0 : gfI (hp I L R tl) 114 [12] 0 = some (I 114 0) := gfI_g (by omega) rfl
theorem p_114_0 {v : Int32} : pf (hp I L R tl) 114 [12] 0 (.int v) = some (hp (uA I 114 (fu (I 114) 0 v)) L R tl) := pfI_g (by omega) rfl
theorem o_114_1 : gfI (hp I L R tl) 114 [12] 1 = some (I 114 1) := gfI_g (by omega) rfl
theorem p_114_1 {v : Int32} : pf (hp I L R tl) 114 [12] 1 (.int v) = some (hp (stB I v) L R tl) := pfI_g (by omega) rfl
theorem o_114_2 : gfI (hp I L R tl) 114 [12] 2 = some (I 114 2) := gfI_g (by omega) rfl
theorem p_114_2 {v : Int32} : pf (hp I L R tl) 114 [12] 2 (.int v) = some (hp (uA I 114 (fu (I 114) 2 v)) L R tl) := pfI_g (by omega) rfl
theorem o_114_13 : gfI (hp I L R tl) 114 [12] 13 = some (I 114 13) := gfI_g (by omega) rfl
theorem p_114_13 {v : Int32} : pf (hp I L R tl) 114 [12] 13 (.int v) = some (hp (uA I 114 (fu (I 114) 13 v)) L R tl) := pfI_g (by omega) rfl
theorem cel_sh {i : Nat → Int32} {l : Nat → Int64} {s : Nat} (h : s < 8) : cel i l R (96 + 2 * s) = cO 6 [.ref (97 + 2 * s), .int (i 1), .int (i 2)] := by
  unfold cel
  rw [if_neg (by omega), if_neg (by omega), if_neg (by omega), if_neg (by omega), if_pos (by omega), if_pos (by omega), show 96 + 2 * s + 1 = 97 + 2 * s by omega]
theorem cel_it {i : Nat → Int32} {l : Nat → Int64} {s : Nat} (h : s < 8) : cel i l R (97 + 2 * s) = cL (fa 80 l) := by
  unfold cel
  rw [if_neg (by omega), if_neg (by omega), if_neg (by omega), if_neg (by omega), if_pos (by omega), if_neg (by omega)]
theorem rS {α : Type} {s : Nat} {A : Option α} {F : Nat → Option α} (h : s < 8) : rdRn (hp I L R tl) 95 3 (nI s) A F = F (96 + 2 * s) := by
  unfold rdRn rdR
  rw [hp_get (by omega)]
  simp only [show cel (I 95) (L 95) R 95 = cR 3 shL from rfl, if_true, nI_pos (show s < 2 ^ 31 by omega), if_false, nI_clamp (show s < 2 ^ 31 by omega)]
  rw [show shL[s]? = some (some (96 + 2 * s)) from by
    rcases show s = 0 ∨ s = 1 ∨ s = 2 ∨ s = 3 ∨ s = 4 ∨ s = 5 ∨ s = 6 ∨ s = 7 by omega with e | e | e | e | e | e | e | e <;> subst e <;> rfl]
theorem c_sh {s : Nat} (h : s < 8) : chk (hp I L R tl) (96 + 2 * s) 6 = some () := chk_g (by omega) (by rw [cel_sh h]; rfl)
theorem o_sh_0 {s : Nat} (h : s < 8) : gfR (hp I L R tl) (96 + 2 * s) [6] 0 = some (97 + 2 * s) := gfR_g (by omega) (by rw [cel_sh h]; rfl)
theorem o_sh_1 {s : Nat} (h : s < 8) : gfI (hp I L R tl) (96 + 2 * s) [6] 1 = some (I (96 + 2 * s) 1) := gfI_g (by omega) (by rw [cel_sh h]; rfl)
theorem o_sh_2 {s : Nat} (h : s < 8) : gfI (hp I L R tl) (96 + 2 * s) [6] 2 = some (I (96 + 2 * s) 2) := gfI_g (by omega) (by rw [cel_sh h]; rfl)
theorem p_sh_1 {s : Nat} {v : Int32} (h : s < 8) : pf (hp I L R tl) (96 + 2 * s) [6] 1 (.int v) = some (hp (uA I (96 + 2 * s) (fu (I (96 + 2 * s)) 1 v)) L R tl) := pfI_g (by omega) (by rw [cel_sh h, cel_sh h]; rfl)
theorem p_sh_2 {s : Nat} {v : Int32} (h : s < 8) : pf (hp I L R tl) (96 + 2 * s) [6] 2 (.int v) = some (hp (uA I (96 + 2 * s) (fu (I (96 + 2 * s)) 2 v)) L R tl) := pfI_g (by omega) (by rw [cel_sh h, cel_sh h]; rfl)
theorem rL_it {s j : Nat} (h : s < 8) (hj : j < 80) : rdL (hp I L R tl) (97 + 2 * s) (nI j) = some (L (97 + 2 * s) j) := rL_g (N := 80) (by omega) (cel_it h) (by omega) hj
theorem wL_it {s j : Nat} {v : Int64} (h : s < 8) (hj : j < 80) : wrL (hp I L R tl) (97 + 2 * s) (nI j) v = some (hp I (uA L (97 + 2 * s) (fu (L (97 + 2 * s)) j v)) R tl) := wL_g (N := 80) (by omega) (fun _ => cel_it h) (by omega) hj
theorem lX {j : Nat} (h : j < 84) : cel (I (3 + j)) (L (3 + j)) R (3 + j) = XFO.getD j (cO 99 []) := by
  unfold cel
  rw [if_neg (by omega), if_pos (by omega), show 3 + j - 3 = j by omega]
theorem xlv : ∀ t, t < 37 → XFO.getD (2 + t) (cO 99 []) = cI (XLV.getD t []) := fun t h => eqC_eq ((by decide +kernel : ∀ t, t < 37 → eqC (XFO.getD (2 + t) (cO 99 [])) (cI (XLV.getD t [])) = true) t h)
theorem xhu : ∀ t, t < 37 → XFO.getD (46 + t) (cO 99 []) = cI (XHU.getD t []) := fun t h => eqC_eq ((by decide +kernel : ∀ t, t < 37 → eqC (XFO.getD (46 + t) (cO 99 [])) (cI (XHU.getD t [])) = true) t h)
theorem xlvl : ∀ t, t < 37 → (XLV.getD t []).length = 6 := by decide +kernel
theorem xhul : ∀ t, t < 37 → (XHU.getD t []).length = 37 := by decide +kernel
theorem t_lv : ∀ t, t < 37 → ∀ k, k < 6 → (XLV.getD t []).getD k 0 = nI (lvN (6 * t + k)) := by decide +kernel
theorem rLv {t k : Nat} (ht : t < 37) (hk : k < 6) : rdI (hp I L R tl) (5 + t) (nI k) = some (nI (lvN (6 * t + k))) := (rC_g (N := 6) (by omega) (by rw [show 5 + t = 3 + (2 + t) by omega, lX (by omega), xlv t ht]) (xlvl t ht) (by omega) hk).trans (congrArg some (t_lv t ht k hk))
theorem kn_b : ∀ t, t < 37 → 1 ≤ knN t ∧ knN t ≤ 6 := by decide +kernel
theorem lv_b : ∀ q, q < 234 → lvN q < 6 := by decide +kernel
theorem rHu {t k : Nat} (ht : t < 37) (hk : k < 37) : rdI (hp I L R tl) (49 + t) (nI k) = some ((XHU.getD t []).getD k 0) := rC_g (N := 37) (by omega) (by rw [show 49 + t = 3 + (46 + t) by omega, lX (by omega), xhu t ht]) (xhul t ht) (by omega) hk
theorem rng_get {a n i : Nat} (h : i < n) : (rng a n)[i]? = some (some (a + i)) := by
  unfold rng
  rw [List.getElem?_map, List.getElem?_range h]
  rfl
theorem rLr {α : Type} {t : Nat} {A : Option α} {F : Nat → Option α} (h : t < 37) : rdRn (hp I L R tl) 4 2 (nI t) A F = F (5 + t) := by
  unfold rdRn rdR
  rw [hp_get (by omega)]
  simp only [show cel (I 4) (L 4) R 4 = cR 2 (rng 5 37) from rfl, if_true, nI_pos (show t < 2 ^ 31 by omega), if_false, nI_clamp (show t < 2 ^ 31 by omega), rng_get h]
theorem rHr {α : Type} {t : Nat} {A : Option α} {F : Nat → Option α} (h : t < 37) : rdRn (hp I L R tl) 48 2 (nI t) A F = F (49 + t) := by
  unfold rdRn rdR
  rw [hp_get (by omega)]
  simp only [show cel (I 48) (L 48) R 48 = cR 2 (rng 49 37) from rfl, if_true, nI_pos (show t < 2 ^ 31 by omega), if_false, nI_clamp (show t < 2 ^ 31 by omega), rng_get h]
theorem rSh {α : Type} {p : Nat} {A : Option α} {F : Nat → Option α} (h : p < 10) : rdRn (hp I L R tl) 112 4 (nI p) A F = nul (some (R p)) A F := by
  unfold rdRn rdR nul
  rw [hp_get (by omega)]
  simp only [show cel (I 112) (L 112) R 112 = cR 4 (fa 10 R) from rfl, if_true, nI_pos (show p < 2 ^ 31 by omega), if_false, nI_clamp (show p < 2 ^ 31 by omega), fa_get h]
  split <;> simp_all
theorem rShR {p : Nat} (h : p < 10) : rdR (hp I L R tl) 112 4 (nI p) = some (R p) := by
  unfold rdR
  rw [hp_get (by omega)]
  simp only [show cel (I 112) (L 112) R 112 = cR 4 (fa 10 R) from rfl, if_true, nI_pos (show p < 2 ^ 31 by omega), if_false, nI_clamp (show p < 2 ^ 31 by omega), fa_get h]
theorem wShR {p : Nat} {v : Option Nat} (h : p < 10) : wrR (hp I L R tl) 112 4 (nI p) v = some (hp I L (fu R p v) tl) := by
  unfold wrR
  rw [hp_get (by omega)]
  simp only [show cel (I 112) (L 112) R 112 = cR 4 (fa 10 R) from rfl, nI_clamp (show p < 2 ^ 31 by omega), fa_len]
  rw [if_neg (fun q => q.elim (nI_pos (show p < 2 ^ 31 by omega)) (fun q => q.elim (by omega) (fun q => q trivial))), fa_set, hp_setR rfl]
theorem nul_s {α : Type} {b : Nat} {A : Option α} {F : Nat → Option α} : nul (some (some b)) A F = F b := rfl
theorem nul_n {α : Type} {A : Option α} {F : Nat → Option α} : nul (some none) A F = A := rfl
end HP
theorem bnd2_e {α β γ : Type} (x : α) (y : β) (F : α → β → Option γ) : bnd2 (some (x, y)) F = F x y := rfl
theorem retZ0 (h : MH) : retZ h 0 = some (h, 0) := if_pos (Or.inl rfl)
theorem retZ1 (h : MH) : retZ h 1 = some (h, 1) := if_pos (Or.inr rfl)
theorem retZ0' (h : MH) : retZ h (nI 0) = some (h, nI 0) := if_pos (Or.inl rfl)
theorem retZ1' (h : MH) : retZ h (nI 1) = some (h, nI 1) := if_pos (Or.inr rfl)
theorem nIne {a b : Nat} (h : ¬ a = b) (ha : a < 2 ^ 31) (hb : b < 2 ^ 31) : ¬ nI a = nI b := fun e => h ((nI_eq ha hb).mp e)
theorem nI_mul (a b : Nat) : nI a * nI b = nI (a * b) := (Int32.ofNat_mul a b).symm
theorem nI_sub {a b : Nat} (h : b ≤ a) : nI a - nI b = nI (a - b) := by
  have e : nI (a - b) + nI b = nI a := by rw [nI_add]; congr 1; omega
  rw [← e, Int32.add_sub_cancel]
theorem lNi {n : Nat} (h : n < 2 ^ 63) : (lN n).toInt = (n : Int) := by
  exact lg_ofNat_toInt (by omega)
theorem lNle {a b : Nat} (h : a ≤ b) (hb : b < 2 ^ 63) : lN a ≤ lN b := by
  rw [Int64.le_iff_toInt_le, lNi (by omega), lNi hb]; omega
theorem lNnle {a b : Nat} (h : b < a) (hb : a < 2 ^ 63) : ¬ lN a ≤ lN b := by
  rw [Int64.le_iff_toInt_le, lNi hb, lNi (by omega)]; omega
theorem lNlt {a b : Nat} (h : a < b) (hb : b < 2 ^ 63) : lN a < lN b := by
  rw [Int64.lt_iff_toInt_lt, lNi (by omega), lNi hb]; omega
theorem lNnlt {a b : Nat} (h : b ≤ a) (hb : a < 2 ^ 63) : ¬ lN a < lN b := by
  rw [Int64.lt_iff_toInt_lt, lNi hb, lNi (by omega)]; omega
theorem lNeq {a b : Nat} (ha : a < 2 ^ 63) (hb : b < 2 ^ 63) : lN a = lN b ↔ a = b := by
  constructor
  · intro e
    have := congrArg Int64.toInt e
    rw [lNi ha, lNi hb] at this
    omega
  · intro e; rw [e]
theorem lNne {a b : Nat} (h : ¬ a = b) (ha : a < 2 ^ 63) (hb : b < 2 ^ 63) : ¬ lN a = lN b := fun e => h ((lNeq ha hb).mp e)
theorem lN_div {a b : Nat} (ha : a < 2 ^ 63) (hb : b < 2 ^ 63) : lN a / lN b = lN (a / b) := by
  apply Int64.toInt_inj.mp
  rw [Int64.toInt_div_of_ne_left _ _ (by
    intro e
    have := congrArg Int64.toInt e
    rw [lNi ha] at this
    have h2 : (Int64.minValue).toInt = -9223372036854775808 := by decide
    omega), lNi ha, lNi hb, lNi (Nat.lt_of_le_of_lt (Nat.div_le_self a b) ha)]
  exact (Int.ofNat_tdiv a b).symm
theorem lrmN {a b : Nat} (ha : a < 2 ^ 63) (hb : b < 2 ^ 63) : lrm (lN a) (lN b) = lN (a % b) := by
  unfold lrm
  rw [lN_div ha hb, lN_mul, lN_sub (Nat.div_mul_le_self a b)]
  congr 1
  have := Nat.div_add_mod a b
  rw [Nat.mul_comm] at this
  omega
theorem nI_div {a b : Nat} (ha : a < 2 ^ 31) (hb : b < 2 ^ 31) : nI a / nI b = nI (a / b) := by
  apply Int32.toInt_inj.mp
  rw [Int32.toInt_div_of_ne_left _ _ (by
    intro e
    have := congrArg Int32.toInt e
    rw [nI_toInt ha] at this
    have h2 : (Int32.minValue).toInt = -2147483648 := by decide
    omega), nI_toInt ha, nI_toInt hb, nI_toInt (Nat.lt_of_le_of_lt (Nat.div_le_self a b) ha)]
  exact (Int.ofNat_tdiv a b).symm
theorem irmN {a b : Nat} (ha : a < 2 ^ 31) (hb : b < 2 ^ 31) : irm (nI a) (nI b) = nI (a % b) := by
  unfold irm
  rw [nI_div ha hb, nI_mul, nI_sub (Nat.div_mul_le_self a b)]
  congr 1
  have := Nat.div_add_mod a b
  rw [Nat.mul_comm] at this
  omega
theorem nzLN {α : Type} {b : Nat} {A : Option α} (h : 0 < b) (hb : b < 2 ^ 63) : nzL (lN b) A = A := if_neg (fun e => (lNne (by omega) hb (show 0 < 2 ^ 63 by omega)) e)
theorem nzIN {α : Type} {b : Nat} {A : Option α} (h : 0 < b) (hb : b < 2 ^ 31) : nzI (nI b) A = A := if_neg (nI_ne0 h hb)
/-! a loop whose states are known -/
theorem lp_ex {σ α : Type} {B : Nat → (σ → Option α) → σ → Option α} (st : Nat → σ) (M N : Nat) (E : Option α) (step : ∀ i, i < N → ∀ n k, M ≤ n → B n k (st i) = k (st (i + 1))) (ex : ∀ n k, M ≤ n → B n k (st N) = E) : ∀ n, N + M < n → lp B n (st 0) = E := by
  have h : ∀ d i n, i + d = N → d + M < n → lp B n (st i) = E := by
    intro d
    induction d with
    | zero =>
      intro i n hi hn
      obtain ⟨n, rfl⟩ : ∃ m, n = m + 1 := ⟨n - 1, by omega⟩
      have e : i = N := by omega
      subst e
      rw [lp_succ]
      exact ex n _ (by omega)
    | succ d ih =>
      intro i n hi hn
      obtain ⟨n, rfl⟩ : ∃ m, n = m + 1 := ⟨n - 1, by omega⟩
      rw [lp_succ, step i (by omega) n _ (by omega)]
      exact ih (i + 1) n (by omega) (by omega)
  intro n hn
  exact h N 0 n (by omega) hn
theorem lp_eq {σ α : Type} {B : Nat → (σ → Option α) → σ → Option α} (st : Nat → σ) (M N : Nat) {E : Option α} {s : σ} {n : Nat} (h0 : s = st 0) (step : ∀ i, i < N → ∀ n k, M ≤ n → B n k (st i) = k (st (i + 1))) (ex : ∀ n k, M ≤ n → B n k (st N) = E) (hn : N + M < n) : lp B n s = E := by
  rw [h0]
  exact lp_ex st M N E step ex n hn
/-- the first place where a test fails -/
def ffr (c : Nat → Bool) : Nat → Nat → Nat
  | 0, i => i
  | d + 1, i => if c i then ffr c d (i + 1) else i
def ff (c : Nat → Bool) (N : Nat) : Nat := ffr c N 0
theorem ffr_le (c : Nat → Bool) : ∀ d i, i ≤ ffr c d i ∧ ffr c d i ≤ i + d
  | 0, i => ⟨Nat.le_refl _, Nat.le_refl _⟩
  | d + 1, i => by
    unfold ffr
    split
    · have := ffr_le c d (i + 1)
      omega
    · omega
theorem ffr_t (c : Nat → Bool) : ∀ d i j, i ≤ j → j < ffr c d i → c j = true
  | 0, i, j, h1, h2 => by unfold ffr at h2; omega
  | d + 1, i, j, h1, h2 => by
    unfold ffr at h2
    split at h2
    · rename_i e
      by_cases ej : j = i
      · subst ej; exact e
      · exact ffr_t c d (i + 1) j (by omega) h2
    · omega
theorem ffr_f (c : Nat → Bool) : ∀ d i, ffr c d i < i + d → c (ffr c d i) = false
  | 0, i, h => by unfold ffr at h; omega
  | d + 1, i, h => by
    unfold ffr at h ⊢
    split
    · rename_i e
      rw [if_pos e] at h
      exact ffr_f c d (i + 1) (by omega)
    · rename_i e
      simpa using e
theorem ff_le (c : Nat → Bool) (N : Nat) : ff c N ≤ N := by
  have := ffr_le c N 0
  unfold ff
  omega
theorem ff_t {c : Nat → Bool} {N j : Nat} (h : j < ff c N) : c j = true := ffr_t c N 0 j (by omega) h
theorem ff_f {c : Nat → Bool} {N : Nat} (h : ff c N < N) : c (ff c N) = false := ffr_f c N 0 (by unfold ff at h; omega)
theorem ff_all {c : Nat → Bool} {N : Nat} : ff c N = N ↔ ∀ j, j < N → c j = true := by
  constructor
  · intro e j hj
    exact ff_t (N := N) (by omega)
  · intro h
    have h1 := ff_le c N
    by_cases e : ff c N = N
    · exact e
    · have := ff_f (show ff c N < N by omega)
      rw [h _ (by omega)] at this
      cases this
theorem ff_congr {c d : Nat → Bool} {N : Nat} (h : ∀ j, j < N → c j = d j) : ff c N = ff d N := by
  have : ∀ k i, i + k ≤ N → ffr c k i = ffr d k i := by
    intro k
    induction k with
    | zero => intro i _; rfl
    | succ k ih =>
      intro i hi
      unfold ffr
      rw [h i (by omega), ih (i + 1) (by omega)]
  exact this N 0 (by omega)
theorem lp_ff {σ α : Type} {B : Nat → (σ → Option α) → σ → Option α} (st : Nat → σ) (c : Nat → Bool) (M N : Nat) (E : Nat → Option α) {s : σ} {n : Nat} (h0 : s = st 0) (step : ∀ i, i < N → c i = true → ∀ n k, M ≤ n → B n k (st i) = k (st (i + 1))) (stop : ∀ i, i < N → c i = false → ∀ n k, M ≤ n → B n k (st i) = E i) (ex : ∀ n k, M ≤ n → B n k (st N) = E N) (hn : N + M < n) : lp B n s = E (ff c N) := by
  have h : ∀ d i n, i + d = N → d + M < n → lp B n (st i) = E (ffr c d i) := by
    intro d
    induction d with
    | zero =>
      intro i n hi hn
      obtain ⟨n, rfl⟩ : ∃ m, n = m + 1 := ⟨n - 1, by omega⟩
      have e : i = N := by omega
      subst e
      rw [lp_succ]
      exact ex n _ (by omega)
    | succ d ih =>
      intro i n hi hn
      obtain ⟨n, rfl⟩ : ∃ m, n = m + 1 := ⟨n - 1, by omega⟩
      rw [lp_succ]
      unfold ffr
      by_cases e : c i = true
      · rw [if_pos e, step i (by omega) e n _ (by omega)]
        exact ih (i + 1) n (by omega) (by omega)
      · rw [if_neg e]
        exact stop i (by omega) (by simpa using e) n _ (by omega)
  rw [h0]
  exact h N 0 n (by omega) hn
/-- whether a test holds at all places below one -/
def aB (c : Nat → Bool) (N : Nat) : Bool := (List.range N).all c
theorem aB_0 (c : Nat → Bool) : aB c 0 = true := rfl
theorem aB_s (c : Nat → Bool) (N : Nat) : aB c (N + 1) = (aB c N && c N) := by
  unfold aB
  rw [List.range_succ, List.all_append]
  simp
theorem aB_iff {c : Nat → Bool} {N : Nat} : aB c N = true ↔ ∀ j, j < N → c j = true := by
  unfold aB
  simp
def bI (b : Bool) : Int32 := if b then nI 1 else nI 0
theorem uA_self {α : Type} {L : Nat → Nat → α} {a : Nat} {f : Nat → α} (h : ∀ j, f j = L a j) : uA L a f = L := by
  rw [show f = L a from funext h, uA_id]
theorem argI (x : Int32) (N : Nat) : (x.toInt < 0 ∨ (N : Int) ≤ x.toInt) ∨ ∃ p, p < N ∧ x = nI p := by
  by_cases h : x.toInt < 0 ∨ (N : Int) ≤ x.toInt
  · exact Or.inl h
  · refine Or.inr ⟨x.toInt.toNat, by omega, ?_⟩
    have h1 : x.toInt < 2 ^ 31 := Int32.toInt_lt x
    apply Int32.toInt_inj.mp
    rw [nI_toInt (by omega)]
    omega

theorem o_1_0b {I : Nat → Nat → Int32} {L : Nat → Nat → Int64} {R : Nat → Option Nat} {tl : MH} {α : Type} {F : Nat → Option α} : (gfR (hp I L R tl) 1 [11] 0).bind F = F 2 := by rw [o_1_0]; rfl
theorem o_1_1b {I : Nat → Nat → Int32} {L : Nat → Nat → Int64} {R : Nat → Option Nat} {tl : MH} {α : Type} {F : Nat → Option α} : (gfR (hp I L R tl) 1 [11] 1).bind F = F 3 := by rw [o_1_1]; rfl
theorem o_1_2b {I : Nat → Nat → Int32} {L : Nat → Nat → Int64} {R : Nat → Option Nat} {tl : MH} {α : Type} {F : Nat → Option α} : (gfR (hp I L R tl) 1 [11] 2).bind F = F 87 := by rw [o_1_2]; rfl
theorem o_1_3b {I : Nat → Nat → Int32} {L : Nat → Nat → Int64} {R : Nat → Option Nat} {tl : MH} {α : Type} {F : Nat → Option α} : (gfR (hp I L R tl) 1 [11] 3).bind F = F 90 := by rw [o_1_3]; rfl
theorem o_1_4b {I : Nat → Nat → Int32} {L : Nat → Nat → Int64} {R : Nat → Option Nat} {tl : MH} {α : Type} {F : Nat → Option α} : (gfR (hp I L R tl) 1 [11] 4).bind F = F 93 := by rw [o_1_4]; rfl
theorem o_1_5b {I : Nat → Nat → Int32} {L : Nat → Nat → Int64} {R : Nat → Option Nat} {tl : MH} {α : Type} {F : Nat → Option α} : (gfR (hp I L R tl) 1 [11] 5).bind F = F 95 := by rw [o_1_5]; rfl
theorem o_1_6b {I : Nat → Nat → Int32} {L : Nat → Nat → Int64} {R : Nat → Option Nat} {tl : MH} {α : Type} {F : Nat → Option α} : (gfR (hp I L R tl) 1 [11] 6).bind F = F 112 := by rw [o_1_6]; rfl
theorem o_1_7b {I : Nat → Nat → Int32} {L : Nat → Nat → Int64} {R : Nat → Option Nat} {tl : MH} {α : Type} {F : Nat → Option α} : (gfR (hp I L R tl) 1 [11] 7).bind F = F 113 := by rw [o_1_7]; rfl
theorem c_1b {I : Nat → Nat → Int32} {L : Nat → Nat → Int64} {R : Nat → Option Nat} {tl : MH} {α : Type} {F : Unit → Option α} : (chk (hp I L R tl) 1 11).bind F = F () := by rw [c_1]; rfl
theorem o_87_0b {I : Nat → Nat → Int32} {L : Nat → Nat → Int64} {R : Nat → Option Nat} {tl : MH} {α : Type} {F : Nat → Option α} : (gfR (hp I L R tl) 87 [10] 0).bind F = F 2 := by rw [o_87_0]; rfl
theorem o_87_1b {I : Nat → Nat → Int32} {L : Nat → Nat → Int64} {R : Nat → Option Nat} {tl : MH} {α : Type} {F : Nat → Option α} : (gfR (hp I L R tl) 87 [10] 1).bind F = F 3 := by rw [o_87_1]; rfl
theorem o_87_2b {I : Nat → Nat → Int32} {L : Nat → Nat → Int64} {R : Nat → Option Nat} {tl : MH} {α : Type} {F : Nat → Option α} : (gfR (hp I L R tl) 87 [10] 2).bind F = F 88 := by rw [o_87_2]; rfl
theorem o_87_3b {I : Nat → Nat → Int32} {L : Nat → Nat → Int64} {R : Nat → Option Nat} {tl : MH} {α : Type} {F : Nat → Option α} : (gfR (hp I L R tl) 87 [10] 3).bind F = F 89 := by rw [o_87_3]; rfl
theorem c_87b {I : Nat → Nat → Int32} {L : Nat → Nat → Int64} {R : Nat → Option Nat} {tl : MH} {α : Type} {F : Unit → Option α} : (chk (hp I L R tl) 87 10).bind F = F () := by rw [c_87]; rfl
theorem o_90_0b {I : Nat → Nat → Int32} {L : Nat → Nat → Int64} {R : Nat → Option Nat} {tl : MH} {α : Type} {F : Nat → Option α} : (gfR (hp I L R tl) 90 [5] 0).bind F = F 2 := by rw [o_90_0]; rfl
theorem o_90_1b {I : Nat → Nat → Int32} {L : Nat → Nat → Int64} {R : Nat → Option Nat} {tl : MH} {α : Type} {F : Nat → Option α} : (gfR (hp I L R tl) 90 [5] 1).bind F = F 91 := by rw [o_90_1]; rfl
theorem o_90_2b {I : Nat → Nat → Int32} {L : Nat → Nat → Int64} {R : Nat → Option Nat} {tl : MH} {α : Type} {F : Nat → Option α} : (gfR (hp I L R tl) 90 [5] 2).bind F = F 92 := by rw [o_90_2]; rfl
theorem c_90b {I : Nat → Nat → Int32} {L : Nat → Nat → Int64} {R : Nat → Option Nat} {tl : MH} {α : Type} {F : Unit → Option α} : (chk (hp I L R tl) 90 5).bind F = F () := by rw [c_90]; rfl
theorem o_93_0b {I : Nat → Nat → Int32} {L : Nat → Nat → Int64} {R : Nat → Option Nat} {tl : MH} {α : Type} {F : Nat → Option α} : (gfR (hp I L R tl) 93 [9] 0).bind F = F 94 := by rw [o_93_0]; rfl
theorem c_93b {I : Nat → Nat → Int32} {L : Nat → Nat → Int64} {R : Nat → Option Nat} {tl : MH} {α : Type} {F : Unit → Option α} : (chk (hp I L R tl) 93 9).bind F = F () := by rw [c_93]; rfl
theorem o_3_0b {I : Nat → Nat → Int32} {L : Nat → Nat → Int64} {R : Nat → Option Nat} {tl : MH} {α : Type} {F : Nat → Option α} : (gfR (hp I L R tl) 3 [0] 0).bind F = F 4 := by rw [o_3_0]; rfl
theorem o_3_1b {I : Nat → Nat → Int32} {L : Nat → Nat → Int64} {R : Nat → Option Nat} {tl : MH} {α : Type} {F : Nat → Option α} : (gfR (hp I L R tl) 3 [0] 1).bind F = F 42 := by rw [o_3_1]; rfl
theorem o_3_2b {I : Nat → Nat → Int32} {L : Nat → Nat → Int64} {R : Nat → Option Nat} {tl : MH} {α : Type} {F : Nat → Option α} : (gfR (hp I L R tl) 3 [0] 2).bind F = F 43 := by rw [o_3_2]; rfl
theorem o_3_3b {I : Nat → Nat → Int32} {L : Nat → Nat → Int64} {R : Nat → Option Nat} {tl : MH} {α : Type} {F : Nat → Option α} : (gfR (hp I L R tl) 3 [0] 3).bind F = F 44 := by rw [o_3_3]; rfl
theorem o_3_4b {I : Nat → Nat → Int32} {L : Nat → Nat → Int64} {R : Nat → Option Nat} {tl : MH} {α : Type} {F : Nat → Option α} : (gfR (hp I L R tl) 3 [0] 4).bind F = F 45 := by rw [o_3_4]; rfl
theorem o_3_5b {I : Nat → Nat → Int32} {L : Nat → Nat → Int64} {R : Nat → Option Nat} {tl : MH} {α : Type} {F : Nat → Option α} : (gfR (hp I L R tl) 3 [0] 5).bind F = F 46 := by rw [o_3_5]; rfl
theorem o_3_6b {I : Nat → Nat → Int32} {L : Nat → Nat → Int64} {R : Nat → Option Nat} {tl : MH} {α : Type} {F : Nat → Option α} : (gfR (hp I L R tl) 3 [0] 6).bind F = F 47 := by rw [o_3_6]; rfl
theorem o_3_7b {I : Nat → Nat → Int32} {L : Nat → Nat → Int64} {R : Nat → Option Nat} {tl : MH} {α : Type} {F : Nat → Option α} : (gfR (hp I L R tl) 3 [0] 7).bind F = F 48 := by rw [o_3_7]; rfl
theorem o_3_8b {I : Nat → Nat → Int32} {L : Nat → Nat → Int64} {R : Nat → Option Nat} {tl : MH} {α : Type} {F : Nat → Option α} : (gfR (hp I L R tl) 3 [0] 8).bind F = F 86 := by rw [o_3_8]; rfl
theorem c_3b {I : Nat → Nat → Int32} {L : Nat → Nat → Int64} {R : Nat → Option Nat} {tl : MH} {α : Type} {F : Unit → Option α} : (chk (hp I L R tl) 3 0).bind F = F () := by rw [c_3]; rfl
theorem o_114_3b {I : Nat → Nat → Int32} {L : Nat → Nat → Int64} {R : Nat → Option Nat} {tl : MH} {α : Type} {F : Nat → Option α} : (gfR (hp I L R tl) 114 [12] 3).bind F = F 115 := by rw [o_114_3]; rfl
theorem o_114_4b {I : Nat → Nat → Int32} {L : Nat → Nat → Int64} {R : Nat → Option Nat} {tl : MH} {α : Type} {F : Nat → Option α} : (gfR (hp I L R tl) 114 [12] 4).bind F = F 116 := by rw [o_114_4]; rfl
theorem o_114_5b {I : Nat → Nat → Int32} {L : Nat → Nat → Int64} {R : Nat → Option Nat} {tl : MH} {α : Type} {F : Nat → Option α} : (gfR (hp I L R tl) 114 [12] 5).bind F = F 117 := by rw [o_114_5]; rfl
theorem o_114_6b {I : Nat → Nat → Int32} {L : Nat → Nat → Int64} {R : Nat → Option Nat} {tl : MH} {α : Type} {F : Nat → Option α} : (gfR (hp I L R tl) 114 [12] 6).bind F = F 118 := by rw [o_114_6]; rfl
theorem o_114_7b {I : Nat → Nat → Int32} {L : Nat → Nat → Int64} {R : Nat → Option Nat} {tl : MH} {α : Type} {F : Nat → Option α} : (gfR (hp I L R tl) 114 [12] 7).bind F = F 119 := by rw [o_114_7]; rfl
theorem o_114_8b {I : Nat → Nat → Int32} {L : Nat → Nat → Int64} {R : Nat → Option Nat} {tl : MH} {α : Type} {F : Nat → Option α} : (gfR (hp I L R tl) 114 [12] 8).bind F = F 120 := by rw [o_114_8]; rfl
theorem o_114_9b {I : Nat → Nat → Int32} {L : Nat → Nat → Int64} {R : Nat → Option Nat} {tl : MH} {α : Type} {F : Nat → Option α} : (gfR (hp I L R tl) 114 [12] 9).bind F = F 121 := by rw [o_114_9]; rfl
theorem o_114_10b {I : Nat → Nat → Int32} {L : Nat → Nat → Int64} {R : Nat → Option Nat} {tl : MH} {α : Type} {F : Nat → Option α} : (gfR (hp I L R tl) 114 [12] 10).bind F = F 122 := by rw [o_114_10]; rfl
theorem o_114_11b {I : Nat → Nat → Int32} {L : Nat → Nat → Int64} {R : Nat → Option Nat} {tl : MH} {α : Type} {F : Nat → Option α} : (gfR (hp I L R tl) 114 [12] 11).bind F = F 123 := by rw [o_114_11]; rfl
theorem o_114_12b {I : Nat → Nat → Int32} {L : Nat → Nat → Int64} {R : Nat → Option Nat} {tl : MH} {α : Type} {F : Nat → Option α} : (gfR (hp I L R tl) 114 [12] 12).bind F = F 124 := by rw [o_114_12]; rfl
theorem o_114_14b {I : Nat → Nat → Int32} {L : Nat → Nat → Int64} {R : Nat → Option Nat} {tl : MH} {α : Type} {F : Nat → Option α} : (gfR (hp I L R tl) 114 [12] 14).bind F = F 125 := by rw [o_114_14]; rfl
theorem o_114_15b {I : Nat → Nat → Int32} {L : Nat → Nat → Int64} {R : Nat → Option Nat} {tl : MH} {α : Type} {F : Nat → Option α} : (gfR (hp I L R tl) 114 [12] 15).bind F = F 126 := by rw [o_114_15]; rfl
theorem o_114_16b {I : Nat → Nat → Int32} {L : Nat → Nat → Int64} {R : Nat → Option Nat} {tl : MH} {α : Type} {F : Nat → Option α} : (gfR (hp I L R tl) 114 [12] 16).bind F = F 127 := by rw [o_114_16]; rfl
theorem o_114_17b {I : Nat → Nat → Int32} {L : Nat → Nat → Int64} {R : Nat → Option Nat} {tl : MH} {α : Type} {F : Nat → Option α} : (gfR (hp I L R tl) 114 [12] 17).bind F = F 128 := by rw [o_114_17]; rfl
theorem o_114_18b {I : Nat → Nat → Int32} {L : Nat → Nat → Int64} {R : Nat → Option Nat} {tl : MH} {α : Type} {F : Nat → Option α} : (gfR (hp I L R tl) 114 [12] 18).bind F = F 129 := by rw [o_114_18]; rfl
theorem o_114_19b {I : Nat → Nat → Int32} {L : Nat → Nat → Int64} {R : Nat → Option Nat} {tl : MH} {α : Type} {F : Nat → Option α} : (gfR (hp I L R tl) 114 [12] 19).bind F = F 130 := by rw [o_114_19]; rfl
theorem c_114b {I : Nat → Nat → Int32} {L : Nat → Nat → Int64} {R : Nat → Option Nat} {tl : MH} {α : Type} {F : Unit → Option α} : (chk (hp I L R tl) 114 12).bind F = F () := by rw [c_114]; rfl
theorem c_2b {I : Nat → Nat → Int32} {L : Nat → Nat → Int64} {R : Nat → Option Nat} {tl : MH} {α : Type} {F : Unit → Option α} : (chk (hp I L R tl) 2 3).bind F = F () := by rw [c_2]; rfl
theorem o_2_0b {I : Nat → Nat → Int32} {L : Nat → Nat → Int64} {R : Nat → Option Nat} {tl : MH} {α : Type} {F : Int64 → Option α} : (gfL (hp I L R tl) 2 [3] 0).bind F = F (L 2 0) := by rw [o_2_0]; rfl
theorem o_1_8b {I : Nat → Nat → Int32} {L : Nat → Nat → Int64} {R : Nat → Option Nat} {tl : MH} {α : Type} {F : Int32 → Option α} : (gfI (hp I L R tl) 1 [11] 8).bind F = F (I 1 8) := by rw [o_1_8]; rfl
theorem p_1_8b {I : Nat → Nat → Int32} {L : Nat → Nat → Int64} {R : Nat → Option Nat} {tl : MH} {α : Type} {F : MH → Option α} {v : Int32} : (pf (hp I L R tl) 1 [11] 8 (.int v)).bind F = F (hp (stA I v) L R tl) := by rw [p_1_8]; rfl
theorem o_93_1b {I : Nat → Nat → Int32} {L : Nat → Nat → Int64} {R : Nat → Option Nat} {tl : MH} {α : Type} {F : Int32 → Option α} : (gfI (hp I L R tl) 93 [9] 1).bind F = F (I 93 1) := by rw [o_93_1]; rfl
theorem p_93_1b {I : Nat → Nat → Int32} {L : Nat → Nat → Int64} {R : Nat → Option Nat} {tl : MH} {α : Type} {F : MH → Option α} {v : Int32} : (pf (hp I L R tl) 93 [9] 1 (.int v)).bind F = F (hp (uA I 93 (fu (I 93) 1 v)) L R tl) := by rw [p_93_1]; rfl
theorem o_114_0b {I : Nat → Nat → Int32} {L : Nat → Nat → Int64} {R : Nat → Option Nat} {tl : MH} {α : Type} {F : Int32 → Option α} : (gfI (hp I L R tl) 114 [12] 0).bind F = F (I 114 0) := by rw [o_114_0]; rfl
theorem p_114_0b {I : Nat → Nat → Int32} {L : Nat → Nat → Int64} {R : Nat → Option Nat} {tl : MH} {α : Type} {F : MH → Option α} {v : Int32} : (pf (hp I L R tl) 114 [12] 0 (.int v)).bind F = F (hp (uA I 114 (fu (I 114) 0 v)) L R tl) := by rw [p_114_0]; rfl
theorem o_114_1b {I : Nat → Nat → Int32} {L : Nat → Nat → Int64} {R : Nat → Option Nat} {tl : MH} {α : Type} {F : Int32 → Option α} : (gfI (hp I L R tl) 114 [12] 1).bind F = F (I 114 1) := by rw [o_114_1]; rfl
theorem p_114_1b {I : Nat → Nat → Int32} {L : Nat → Nat → Int64} {R : Nat → Option Nat} {tl : MH} {α : Type} {F : MH → Option α} {v : Int32} : (pf (hp I L R tl) 114 [12] 1 (.int v)).bind F = F (hp (stB I v) L R tl) := by rw [p_114_1]; rfl
theorem o_114_2b {I : Nat → Nat → Int32} {L : Nat → Nat → Int64} {R : Nat → Option Nat} {tl : MH} {α : Type} {F : Int32 → Option α} : (gfI (hp I L R tl) 114 [12] 2).bind F = F (I 114 2) := by rw [o_114_2]; rfl
theorem p_114_2b {I : Nat → Nat → Int32} {L : Nat → Nat → Int64} {R : Nat → Option Nat} {tl : MH} {α : Type} {F : MH → Option α} {v : Int32} : (pf (hp I L R tl) 114 [12] 2 (.int v)).bind F = F (hp (uA I 114 (fu (I 114) 2 v)) L R tl) := by rw [p_114_2]; rfl
theorem o_114_13b {I : Nat → Nat → Int32} {L : Nat → Nat → Int64} {R : Nat → Option Nat} {tl : MH} {α : Type} {F : Int32 → Option α} : (gfI (hp I L R tl) 114 [12] 13).bind F = F (I 114 13) := by rw [o_114_13]; rfl
theorem p_114_13b {I : Nat → Nat → Int32} {L : Nat → Nat → Int64} {R : Nat → Option Nat} {tl : MH} {α : Type} {F : MH → Option α} {v : Int32} : (pf (hp I L R tl) 114 [12] 13 (.int v)).bind F = F (hp (uA I 114 (fu (I 114) 13 v)) L R tl) := by rw [p_114_13]; rfl
theorem c_shb {I : Nat → Nat → Int32} {L : Nat → Nat → Int64} {R : Nat → Option Nat} {tl : MH} {α : Type} {F : Unit → Option α} {s : Nat} (h : s < 8) : (chk (hp I L R tl) (96 + 2 * s) 6).bind F = F () := by rw [c_sh h]; rfl
theorem o_sh_0b {I : Nat → Nat → Int32} {L : Nat → Nat → Int64} {R : Nat → Option Nat} {tl : MH} {α : Type} {F : Nat → Option α} {s : Nat} (h : s < 8) : (gfR (hp I L R tl) (96 + 2 * s) [6] 0).bind F = F (97 + 2 * s) := by rw [o_sh_0 h]; rfl
theorem o_sh_1b {I : Nat → Nat → Int32} {L : Nat → Nat → Int64} {R : Nat → Option Nat} {tl : MH} {α : Type} {F : Int32 → Option α} {s : Nat} (h : s < 8) : (gfI (hp I L R tl) (96 + 2 * s) [6] 1).bind F = F (I (96 + 2 * s) 1) := by rw [o_sh_1 h]; rfl
theorem o_sh_2b {I : Nat → Nat → Int32} {L : Nat → Nat → Int64} {R : Nat → Option Nat} {tl : MH} {α : Type} {F : Int32 → Option α} {s : Nat} (h : s < 8) : (gfI (hp I L R tl) (96 + 2 * s) [6] 2).bind F = F (I (96 + 2 * s) 2) := by rw [o_sh_2 h]; rfl
theorem p_sh_1b {I : Nat → Nat → Int32} {L : Nat → Nat → Int64} {R : Nat → Option Nat} {tl : MH} {α : Type} {F : MH → Option α} {s : Nat} {v : Int32} (h : s < 8) : (pf (hp I L R tl) (96 + 2 * s) [6] 1 (.int v)).bind F = F (hp (uA I (96 + 2 * s) (fu (I (96 + 2 * s)) 1 v)) L R tl) := by rw [p_sh_1 h]; rfl
theorem p_sh_2b {I : Nat → Nat → Int32} {L : Nat → Nat → Int64} {R : Nat → Option Nat} {tl : MH} {α : Type} {F : MH → Option α} {s : Nat} {v : Int32} (h : s < 8) : (pf (hp I L R tl) (96 + 2 * s) [6] 2 (.int v)).bind F = F (hp (uA I (96 + 2 * s) (fu (I (96 + 2 * s)) 2 v)) L R tl) := by rw [p_sh_2 h]; rfl

/-! both constructors -/
def i0 (P a j : Nat) : Int32 := if a = 114 then (if j = 2 then nI P else nI 0) else if a = 118 then -1 else if 96 ≤ a ∧ a < 112 then (if j = 1 then -1 else nI 0) else nI 0
def l0 (P a _j : Nat) : Int64 := if a = 2 then lN P else lN 0
def HX1 : MH := [cO 99 [], cO 11 [.ref 2, .null, .null, .null, .null, .null, .null, .null, .int 0], cO 99 []]
def HXF : MH := (List.range 114).map fun a => if a = 2 then cO 99 [] else cel (i0 0 a) (l0 0 a) (fun _ => none) a
set_option maxRecDepth 100000 in
theorem HXF_made : fX_init_16 60000 HX1 1 = some HXF := eqO_eq (by decide +kernel)
def prP (P : Nat) : MH := (List.range 114).map fun a => cel (i0 P a) (l0 P a) (fun _ => none) a
theorem mc_none (c : MC) : mc c none = c := by
  unfold mc
  split
  · split
    · rfl
    · rfl
  · rfl
theorem cel_P {P a : Nat} (h1 : ¬ a = 2) (h2 : a < 114) : cel (i0 P a) (l0 P a) (fun _ => none) a = cel (i0 0 a) (l0 0 a) (fun _ => none) a := by
  have e1 : i0 P a = i0 0 a := by
    funext j
    unfold i0
    simp only [show ¬ a = 114 by omega, if_false]
  have e2 : l0 P a = l0 0 a := by
    funext j
    unfold l0
    rw [if_neg h1, if_neg h1]
  rw [e1, e2]
theorem X_made {P : Nat} : fX_init_16 60000 [cO 99 [], cO 11 [.ref 2, .null, .null, .null, .null, .null, .null, .null, .int 0], cO 3 [.long (lN P)]] 1 = some (prP P) := by
  have h := mX_init_16 (kk := [cO 99 [], cO 99 [], cO 3 [.long (lN P)]]) 60000 HX1 1 HXF_made
  have e1 : mrg HX1 [cO 99 [], cO 99 [], cO 3 [.long (lN P)]] = [cO 99 [], cO 11 [.ref 2, .null, .null, .null, .null, .null, .null, .null, .int 0], cO 3 [.long (lN P)]] := rfl
  have e2 : mrg HXF [cO 99 [], cO 99 [], cO 3 [.long (lN P)]] = prP P := by
    unfold mrg prP
    have hl : HXF.length = 114 := by simp [HXF]
    rw [hl]
    apply List.map_congr_left
    intro a ha
    have ha := List.mem_range.mp ha
    have hg : HXF.getD a (cO 99 []) = if a = 2 then cO 99 [] else cel (i0 0 a) (l0 0 a) (fun _ => none) a := by
      unfold HXF
      rw [List.getD_eq_getElem?_getD, List.getElem?_map, List.getElem?_range ha]
      rfl
    rw [hg]
    by_cases h2 : a = 2
    · subst h2
      rfl
    · rw [if_neg h2, ← cel_P (P := P) h2 ha]
      by_cases h0 : a = 0
      · subst h0
        rfl
      · by_cases h1 : a = 1
        · subst h1
          rfl
        · rw [show ([cO 99 [], cO 99 [], cO 3 [.long (lN P)]] : MH)[a]? = none from List.getElem?_eq_none (by simp; omega), mc_none]
  rw [e1, e2] at h
  exact h
section BG
variable {h0 cs : MH} {fs : List Value} {α : Type}
theorem na_t {N : Nat} {F : MH → Nat → Option α} (hl : h0.length = 114) (hN : N < 2 ^ 31) : naI (h0 ++ (cO 12 fs :: cs)) (@OfNat.ofNat Int32 N Int32.instOfNat) N F = F (h0 ++ (cO 12 fs :: (cs ++ [cI (List.replicate N 0)]))) (115 + cs.length) := by
  unfold naI alc
  rw [lit32, nI_clamp hN, if_neg (fun q => q.elim (nI_pos hN) (by omega)), List.append_assoc, List.length_append, hl, List.length_cons, List.cons_append]
  congr 1
  omega
theorem nl_t {N : Nat} {F : MH → Nat → Option α} (hl : h0.length = 114) (hN : N < 2 ^ 31) : naL (h0 ++ (cO 12 fs :: cs)) (@OfNat.ofNat Int32 N Int32.instOfNat) N F = F (h0 ++ (cO 12 fs :: (cs ++ [cL (List.replicate N 0)]))) (115 + cs.length) := by
  unfold naL alc
  rw [lit32, nI_clamp hN, if_neg (fun q => q.elim (nI_pos hN) (by omega)), List.append_assoc, List.length_append, hl, List.length_cons, List.cons_append]
  congr 1
  omega
theorem pf_s {k : Nat} {v : Value} (hl : h0.length = 114) (hk : k < fs.length) : pf (h0 ++ (cO 12 fs :: cs)) 114 [12] k v = some (h0 ++ (cO 12 (fs.set k v) :: cs)) := by
  unfold pf
  rw [List.getElem?_append_right (by omega), hl]
  simp only [Nat.sub_self, List.getElem?_cons_zero]
  rw [if_pos ⟨by simp, hk⟩, List.set_append_right _ _ (by omega), hl, Nat.sub_self, List.set_cons_zero]
theorem pf_t {k : Nat} {v : Value} {F : MH → Option α} (hl : h0.length = 114) (hk : k < fs.length) : (pf (h0 ++ (cO 12 fs :: cs)) 114 [12] k v).bind F = F (h0 ++ (cO 12 (fs.set k v) :: cs)) := by
  rw [pf_s hl hk]
  rfl
theorem wr_t {xs : List Int32} {i : Nat} {v : Int32} {F : MH → Option α} (hl : h0.length = 114) (hi : i < xs.length) (h2 : i < 2 ^ 31) : (wrI (h0 ++ (cO 12 fs :: (cs ++ [cI xs]))) (115 + cs.length) (@OfNat.ofNat Int32 i Int32.instOfNat) v).bind F = F (h0 ++ (cO 12 fs :: (cs ++ [cI (xs.set i v)]))) := by
  rw [lit32]
  unfold wrI
  rw [List.getElem?_append_right (by omega), hl, show 115 + cs.length - 114 = cs.length + 1 by omega, List.getElem?_cons_succ, List.getElem?_append_right (by omega), Nat.sub_self]
  simp only [List.getElem?_cons_zero]
  rw [if_neg (fun q => q.elim (nI_pos h2) (by rw [nI_clamp h2]; omega)), nI_clamp h2, List.set_append_right _ _ (by omega), hl, show 115 + cs.length - 114 = cs.length + 1 by omega, List.set_cons_succ, List.set_append_right _ _ (by omega), Nat.sub_self]
  rfl
end BG
/-- the reference's cells, as they are before its trees are laid -/
def MI0 (p : Value) (k l : List Int32) : MH := [mObj (.int 0) (.int 0) p (.int 0), cI k, cI l, cI (List.replicate 6 0), cI [-1, -1, -1, -1, -1, -1, -1, -1], cI (List.replicate 8 0), cL (List.replicate 640 0), cI (List.replicate 11 0), cL (List.replicate 704 0), cL (List.replicate 88 0), cI (List.replicate 16 0), cL (List.replicate 48 0), cL (List.replicate 64 0), cL (List.replicate 64 0), cL (List.replicate 64 0), cL (List.replicate 9 0), cL (List.replicate 9 0)]
theorem M_begin {n : Nat} {h0 : MH} {x : Int32} (hl : h0.length = 114) : fM_init n (h0 ++ [cO 12 [.int 0, .int 0, .int 0, .null, .null, .null, .null, .null, .null, .null, .null, .null, .null, .int 0, .null, .null, .null, .null, .null, .null]]) 114 x = fM_init_169 n (h0 ++ MI0 (.int 0) (List.replicate 38 0) (List.replicate 234 0)) 114 x := by
  unfold fM_init
  refine (na_t (N := 38) hl (by omega)).trans ?_
  refine (pf_t (k := 3) hl (by simp only [List.length_set, List.length_cons, List.length_nil]; omega)).trans ?_
  refine (na_t (N := 234) hl (by omega)).trans ?_
  refine (pf_t (k := 4) hl (by simp only [List.length_set, List.length_cons, List.length_nil]; omega)).trans ?_
  refine (na_t (N := 6) hl (by omega)).trans ?_
  refine (pf_t (k := 5) hl (by simp only [List.length_set, List.length_cons, List.length_nil]; omega)).trans ?_
  refine (na_t (N := 8) hl (by omega)).trans ?_
  refine (wr_t (i := 0) hl (by simp only [List.length_set, List.length_replicate]; omega) (by omega)).trans ?_
  refine (wr_t (i := 1) hl (by simp only [List.length_set, List.length_replicate]; omega) (by omega)).trans ?_
  refine (wr_t (i := 2) hl (by simp only [List.length_set, List.length_replicate]; omega) (by omega)).trans ?_
  refine (wr_t (i := 3) hl (by simp only [List.length_set, List.length_replicate]; omega) (by omega)).trans ?_
  refine (wr_t (i := 4) hl (by simp only [List.length_set, List.length_replicate]; omega) (by omega)).trans ?_
  refine (wr_t (i := 5) hl (by simp only [List.length_set, List.length_replicate]; omega) (by omega)).trans ?_
  refine (wr_t (i := 6) hl (by simp only [List.length_set, List.length_replicate]; omega) (by omega)).trans ?_
  refine (wr_t (i := 7) hl (by simp only [List.length_set, List.length_replicate]; omega) (by omega)).trans ?_
  refine (pf_t (k := 6) hl (by simp only [List.length_set, List.length_cons, List.length_nil]; omega)).trans ?_
  refine (na_t (N := 8) hl (by omega)).trans ?_
  refine (pf_t (k := 7) hl (by simp only [List.length_set, List.length_cons, List.length_nil]; omega)).trans ?_
  refine (nl_t (N := 640) hl (by omega)).trans ?_
  refine (pf_t (k := 8) hl (by simp only [List.length_set, List.length_cons, List.length_nil]; omega)).trans ?_
  refine (na_t (N := 11) hl (by omega)).trans ?_
  refine (pf_t (k := 9) hl (by simp only [List.length_set, List.length_cons, List.length_nil]; omega)).trans ?_
  refine (nl_t (N := 704) hl (by omega)).trans ?_
  refine (pf_t (k := 10) hl (by simp only [List.length_set, List.length_cons, List.length_nil]; omega)).trans ?_
  refine (nl_t (N := 88) hl (by omega)).trans ?_
  refine (pf_t (k := 11) hl (by simp only [List.length_set, List.length_cons, List.length_nil]; omega)).trans ?_
  refine (na_t (N := 16) hl (by omega)).trans ?_
  refine (pf_t (k := 12) hl (by simp only [List.length_set, List.length_cons, List.length_nil]; omega)).trans ?_
  refine (nl_t (N := 48) hl (by omega)).trans ?_
  refine (pf_t (k := 14) hl (by simp only [List.length_set, List.length_cons, List.length_nil]; omega)).trans ?_
  refine (nl_t (N := 64) hl (by omega)).trans ?_
  refine (pf_t (k := 15) hl (by simp only [List.length_set, List.length_cons, List.length_nil]; omega)).trans ?_
  refine (nl_t (N := 64) hl (by omega)).trans ?_
  refine (pf_t (k := 16) hl (by simp only [List.length_set, List.length_cons, List.length_nil]; omega)).trans ?_
  refine (nl_t (N := 64) hl (by omega)).trans ?_
  refine (pf_t (k := 17) hl (by simp only [List.length_set, List.length_cons, List.length_nil]; omega)).trans ?_
  refine (nl_t (N := 9) hl (by omega)).trans ?_
  refine (pf_t (k := 18) hl (by simp only [List.length_set, List.length_cons, List.length_nil]; omega)).trans ?_
  refine (nl_t (N := 9) hl (by omega)).trans ?_
  refine (pf_t (k := 19) hl (by simp only [List.length_set, List.length_cons, List.length_nil]; omega)).trans ?_
  simp only [List.cons_append, List.nil_append, List.length_cons, List.length_nil, List.set_cons_zero, List.set_cons_succ, Nat.reduceAdd, MI0, mObj]
  rfl
theorem mrg_M {h0 : MH} {P : Nat} {k l k1 l1 : List Int32} (hl : h0.length = 114) : mrg (HMa k l) (h0 ++ MI0 (.int (nI P)) k1 l1) = h0 ++ MI0 (.int (nI P)) k l := by
  have hL : (HMa k l).length = 131 := by simp [HMa]
  apply List.ext_getElem?
  intro i
  by_cases h1 : i < 114
  · have e : (HMa k l)[i]? = some (cO 99 []) := by
      unfold HMa
      rw [List.getElem?_append_left (by simp; omega), List.getElem?_append_left (by simp; omega), List.getElem?_replicate_of_lt h1]
    rw [mrg_get e, List.getElem?_append_left (by omega), List.getElem?_append_left (by omega), List.getElem?_eq_getElem (by omega)]
    rfl
  · by_cases h2 : i < 131
    · obtain ⟨j, rfl⟩ : ∃ j, i = 114 + j := ⟨i - 114, by omega⟩
      have e : (HMa k l)[114 + j]? = ([mObj (.int 0) (.int 0) ine (.int 0), cI k, cI l] ++ List.replicate 14 (cO 99 []))[j]? := by
        unfold HMa
        rw [List.append_assoc, List.getElem?_append_right (by simp)]
        congr 1
        simp
      have e2 : ∀ z : MH, (h0 ++ z)[114 + j]? = z[j]? := fun z => by
        rw [List.getElem?_append_right (by omega), hl, Nat.add_sub_cancel_left]
      rw [e2]
      have hj : j < 17 := by omega
      have key : ∀ c, ([mObj (.int 0) (.int 0) ine (.int 0), cI k, cI l] ++ List.replicate 14 (cO 99 []))[j]? = some c → some (mc c (MI0 (.int (nI P)) k1 l1)[j]?) = (MI0 (.int (nI P)) k l)[j]? := by
        rcases show j = 0 ∨ j = 1 ∨ j = 2 ∨ j = 3 ∨ j = 4 ∨ j = 5 ∨ j = 6 ∨ j = 7 ∨ j = 8 ∨ j = 9 ∨ j = 10 ∨ j = 11 ∨ j = 12 ∨ j = 13 ∨ j = 14 ∨ j = 15 ∨ j = 16 by omega with q | q | q | q | q | q | q | q | q | q | q | q | q | q | q | q | q <;> subst q <;> (intro c hc; cases hc; rfl)
      have hc : ∃ c, ([mObj (.int 0) (.int 0) ine (.int 0), cI k, cI l] ++ List.replicate 14 (cO 99 []))[j]? = some c := ⟨_, List.getElem?_eq_getElem (by simp; omega)⟩
      obtain ⟨c, hc⟩ := hc
      rw [mrg_get (e.trans hc), e2]
      exact key c hc
    · have hM : (MI0 (.int (nI P)) k l).length = 17 := rfl
      rw [mrg_none (by omega), List.getElem?_eq_none (by rw [List.length_append, hl, hM]; omega)]
theorem M_made {h0 : MH} {P : Nat} (hl : h0.length = 114) : fM_init_197 60000 (h0 ++ MI0 (.int 0) (List.replicate 38 0) (List.replicate 234 0)) (nI P) 114 114 = some (h0 ++ MI0 (.int (nI P)) MKN MLV) := by
  unfold fM_init_197
  have e1 : pf (h0 ++ MI0 (.int 0) (List.replicate 38 0) (List.replicate 234 0)) 114 [12] 2 (.int (nI P)) = some (h0 ++ MI0 (.int (nI P)) (List.replicate 38 0) (List.replicate 234 0)) := by
    unfold MI0 mObj
    rw [pf_s hl (by simp)]
    rfl
  rw [e1, Option.bind_some]
  have h := mM_init_200 (kk := h0 ++ MI0 (.int (nI P)) (List.replicate 38 0) (List.replicate 234 0)) 60000 _ 114 HM_made
  rw [mrg_M hl, mrg_M hl] at h
  exact h
theorem rep_l (N : Nat) (f : Nat → Int64) (h : ∀ j, f j = 0) : cL (List.replicate N 0) = cL (fa N f) := by
  unfold fa
  congr 2
  apply List.ext_getElem?
  intro i
  by_cases hi : i < N
  · rw [List.getElem?_map, List.getElem?_range hi, List.getElem?_replicate_of_lt hi]
    simp [h]
  · rw [List.getElem?_eq_none (by simp; omega), List.getElem?_eq_none (by simp; omega)]
theorem rep_i (N : Nat) (f : Nat → Int32) (h : ∀ j, f j = 0) : cI (List.replicate N 0) = cI (fa N f) := by
  unfold fa
  congr 1
  apply List.ext_getElem?
  intro i
  by_cases hi : i < N
  · rw [List.getElem?_map, List.getElem?_range hi, List.getElem?_replicate_of_lt hi]
    simp [h]
  · rw [List.getElem?_eq_none (by simp; omega), List.getElem?_eq_none (by simp; omega)]
theorem hp_begin (P : Nat) : prP P ++ MI0 (.int (nI P)) MKN MLV = hp (i0 P) (l0 P) (fun _ => none) [] := by
  unfold hp pr prP
  rw [List.append_nil, show 131 = 114 + 17 from rfl, List.range_add, List.map_append, List.map_map]
  refine congrArg (fun z => (List.range 114).map (fun a => cel (i0 P a) (l0 P a) (fun _ => none) a) ++ z) ?_
  refine Eq.trans ?_ (show [mObj (.int 0) (.int 0) (.int (nI P)) (.int 0), cI MKN, cI MLV, cI (fa 6 (i0 P 117)), cI (fa 8 (i0 P 118)), cI (fa 8 (i0 P 119)), cL (fa 640 (l0 P 120)), cI (fa 11 (i0 P 121)), cL (fa 704 (l0 P 122)), cL (fa 88 (l0 P 123)), cI (fa 16 (i0 P 124)), cL (fa 48 (l0 P 125)), cL (fa 64 (l0 P 126)), cL (fa 64 (l0 P 127)), cL (fa 64 (l0 P 128)), cL (fa 9 (l0 P 129)), cL (fa 9 (l0 P 130))] = _ from rfl)
  unfold MI0
  rw [rep_i 6 (i0 P 117) (fun _ => rfl), rep_i 8 (i0 P 119) (fun _ => rfl), rep_l 640 (l0 P 120) (fun _ => rfl), rep_i 11 (i0 P 121) (fun _ => rfl), rep_l 704 (l0 P 122) (fun _ => rfl), rep_l 88 (l0 P 123) (fun _ => rfl), rep_i 16 (i0 P 124) (fun _ => rfl), rep_l 48 (l0 P 125) (fun _ => rfl), rep_l 64 (l0 P 126) (fun _ => rfl), rep_l 9 (l0 P 129) (fun _ => rfl)]
  rfl
theorem Rel_begin {P : Nat} (h1 : 101 ≤ P) (h2 : P ≤ 2000000000) : Rel P (i0 P) (l0 P) (fun _ => none) [] := by
  refine ⟨⟨h1, h2, rfl, rfl, rfl⟩, rfl, fun s hs => ⟨?_, Or.inl rfl, ⟨0, by omega, rfl, ?_⟩, fun j hj => ?_⟩, ⟨⟨0, by omega, rfl, rfl⟩, fun j hj => rfl⟩, fun p hp1 => Or.inl ⟨rfl, rfl⟩⟩
  · unfold i0
    rw [if_neg (by omega), if_neg (by omega), if_pos (by omega)]
    rfl
  · unfold i0
    rw [if_neg (by omega), if_neg (by omega), if_pos (by omega)]
    rfl
  · unfold l0
    rw [if_neg (by omega)]
    rfl

/-! the heap behind both constructors: 131 cells, told by a function, and the tables' cells behind them -/
def pr (C : Nat → MC) : MH := (List.range 131).map C
def up (C : Nat → MC) (b : Nat) (c : MC) : Nat → MC := fun a => if a = b then c else C a
theorem up_app (C : Nat → MC) (b : Nat) (c : MC) (a : Nat) : up C b c a = if a = b then c else C a := rfl
theorem pr_len (C : Nat → MC) : (pr C).length = 131 := by simp [pr]
theorem pr_get {C : Nat → MC} {tl : MH} {a : Nat} (h : a < 131) : (pr C ++ tl)[a]? = some (C a) := by
  rw [List.getElem?_append_left (by rw [pr_len]; exact h)]
  unfold pr
  rw [List.getElem?_map, List.getElem?_range h]
  rfl
theorem pr_set {C : Nat → MC} {tl : MH} {a : Nat} {c : MC} (h : a < 131) : (pr C ++ tl).set a c = pr (up C a c) ++ tl := by
  apply List.ext_getElem?
  intro i
  by_cases hi : i < 131
  · rw [pr_get hi]
    by_cases e : a = i
    · subst e
      rw [List.getElem?_set_self (by rw [List.length_append, pr_len]; omega)]
      simp [up]
    · rw [List.getElem?_set_ne e, pr_get hi]
      simp [up, Ne.symm e]
  · rw [List.getElem?_set_ne (by omega), List.getElem?_append_right (by rw [pr_len]; omega), List.getElem?_append_right (by rw [pr_len]; omega), pr_len, pr_len]
theorem pr_tail {C : Nat → MC} {tl : MH} {j : Nat} : (pr C ++ tl)[131 + j]? = tl[j]? := by
  rw [List.getElem?_append_right (by rw [pr_len]; omega), pr_len, Nat.add_sub_cancel_left]
theorem pr_full {C : Nat → MC} {tl : MH} : (pr C ++ tl).length = 131 + tl.length := by rw [List.length_append, pr_len]
theorem pr_tset {C : Nat → MC} {tl : MH} {j : Nat} {c : MC} : (pr C ++ tl).set (131 + j) c = pr C ++ tl.set j c := by
  rw [List.set_append, pr_len, if_neg (by omega), Nat.add_sub_cancel_left]
theorem pr_app {C : Nat → MC} {tl l : MH} : (pr C ++ tl) ++ l = pr C ++ (tl ++ l) := List.append_assoc _ _ _
theorem up_up (C : Nat → MC) (b : Nat) (c d : MC) : up (up C b c) b d = up C b d := by
  funext a
  unfold up
  split <;> rfl
theorem up_id (C : Nat → MC) (b : Nat) {c : MC} (h : C b = c) : up C b c = C := by
  funext a
  unfold up
  split
  · rename_i e; rw [e, h]
  · rfl
/-! numbers -/
theorem lit32 (n : Nat) : (@OfNat.ofNat Int32 n Int32.instOfNat) = nI n := rfl
theorem litL (n : Nat) : (@OfNat.ofNat Int64 n Int64.instOfNat) = lN n := rfl
/-! reads and writes at places of the first 131 cells -/
def cgf (c : MC) (S : List Nat) (k : Nat) : Option Value := match c with
  | Sum.inr (Sum.inr (Sum.inr q)) => if q.1 ∈ S then q.2[k]? else none
  | _ => none
def cI_get (c : MC) (j : Nat) : Option Int32 := match c with
  | Sum.inl l => l[j]?
  | _ => none
def cL_get (c : MC) (j : Nat) : Option Int64 := match c with
  | Sum.inr (Sum.inl l) => l[j]?
  | _ => none
def cR_get (c : MC) (t j : Nat) : Option (Option Nat) := match c with
  | Sum.inr (Sum.inr (Sum.inl q)) => if q.1 = t then q.2[j]? else none
  | _ => none
theorem cI_get_e (l : List Int32) (j : Nat) : cI_get (cI l) j = l[j]? := rfl
theorem cL_get_e (l : List Int64) (j : Nat) : cL_get (cL l) j = l[j]? := rfl
theorem cR_get_e (t : Nat) (l : List (Option Nat)) (j : Nat) : cR_get (cR t l) t j = l[j]? := if_pos rfl
def cI_set (c : MC) (j : Nat) (v : Int32) : Option MC := match c with
  | Sum.inl l => if j < l.length then some (cI (l.set j v)) else none
  | _ => none
def cL_set (c : MC) (j : Nat) (v : Int64) : Option MC := match c with
  | Sum.inr (Sum.inl l) => if j < l.length then some (cL (l.set j v)) else none
  | _ => none
def cR_set (c : MC) (t j : Nat) (v : Option Nat) : Option MC := match c with
  | Sum.inr (Sum.inr (Sum.inl q)) => if q.1 = t then (if j < q.2.length then some (cR t (q.2.set j v)) else none) else none
  | _ => none
theorem cI_set_e {l : List Int32} {j : Nat} {v : Int32} (h : j < l.length) : cI_set (cI l) j v = some (cI (l.set j v)) := if_pos h
theorem cL_set_e {l : List Int64} {j : Nat} {v : Int64} (h : j < l.length) : cL_set (cL l) j v = some (cL (l.set j v)) := if_pos h
theorem cR_set_e {t : Nat} {l : List (Option Nat)} {j : Nat} {v : Option Nat} (h : j < l.length) : cR_set (cR t l) t j v = some (cR t (l.set j v)) := by
  unfold cR_set
  simp [h]
def cO_set (c : MC) (S : List Nat) (k : Nat) (v : Value) : Option MC := match c with
  | Sum.inr (Sum.inr (Sum.inr q)) => if q.1 ∈ S ∧ k < q.2.length then some (cO q.1 (q.2.set k v)) else none
  | _ => none
/-- a heap of that form with a cell written -/
def wu (C : Nat → MC) (tl : MH) (a : Nat) (c : Option MC) : Option MH := c.map fun c => pr (up C a c) ++ tl
theorem wu_some (C : Nat → MC) (tl : MH) (a : Nat) (c : MC) : wu C tl a (some c) = some (pr (up C a c) ++ tl) := rfl
def vI (o : Option Value) : Option Int32 := match o with
  | some (.int v) => some v
  | _ => none
def vL (o : Option Value) : Option Int64 := match o with
  | some (.long v) => some v
  | _ => none
def vR (o : Option Value) : Option Nat := match o with
  | some (.ref v) => some v
  | _ => none
def cchk (c : MC) (t : Nat) : Option Unit := match c with
  | Sum.inr (Sum.inr (Sum.inr q)) => if q.1 = t then some () else none
  | _ => none
theorem gf_pr {C : Nat → MC} {tl : MH} {a : Nat} {S : List Nat} {k : Nat} (h : a < 131) : gf (pr C ++ tl) a S k = cgf (C a) S k := by
  unfold gf cgf
  rw [pr_get h]
  generalize C a = c
  rcases c with l | l | l | l <;> rfl
theorem gfI_pr {C : Nat → MC} {tl : MH} {a : Nat} {S : List Nat} {k : Nat} (h : a < 131) : gfI (pr C ++ tl) a S k = vI (cgf (C a) S k) := by
  unfold gfI vI
  rw [gf_pr h]
  rfl
theorem gfL_pr {C : Nat → MC} {tl : MH} {a : Nat} {S : List Nat} {k : Nat} (h : a < 131) : gfL (pr C ++ tl) a S k = vL (cgf (C a) S k) := by
  unfold gfL vL
  rw [gf_pr h]
  rfl
theorem gfR_pr {C : Nat → MC} {tl : MH} {a : Nat} {S : List Nat} {k : Nat} (h : a < 131) : gfR (pr C ++ tl) a S k = vR (cgf (C a) S k) := by
  unfold gfR vR
  rw [gf_pr h]
  rfl
theorem pf_pr {C : Nat → MC} {tl : MH} {a : Nat} {S : List Nat} {k : Nat} {v : Value} (h : a < 131) : pf (pr C ++ tl) a S k v = wu C tl a (cO_set (C a) S k v) := by
  unfold pf cO_set wu
  rw [pr_get h]
  generalize C a = c
  rcases c with l | l | l | q
  · rfl
  · rfl
  · rfl
  · simp only
    split
    · rw [pr_set h]; rfl
    · rfl
theorem chk_pr {C : Nat → MC} {tl : MH} {a t : Nat} (h : a < 131) : chk (pr C ++ tl) a t = cchk (C a) t := by
  unfold chk cchk
  rw [pr_get h]
  generalize C a = c
  rcases c with l | l | l | l <;> rfl
theorem rdI_pr {C : Nat → MC} {tl : MH} {a j : Nat} (h : a < 131) (hj : j < 2 ^ 31) : rdI (pr C ++ tl) a (nI j) = cI_get (C a) j := by
  unfold rdI cI_get
  rw [pr_get h]
  generalize C a = c
  rcases c with l | l | l | l
  · simp only [nI_pos hj, if_false, nI_clamp hj]
  · rfl
  · rfl
  · rfl
theorem rdL_pr {C : Nat → MC} {tl : MH} {a j : Nat} (h : a < 131) (hj : j < 2 ^ 31) : rdL (pr C ++ tl) a (nI j) = cL_get (C a) j := by
  unfold rdL cL_get
  rw [pr_get h]
  generalize C a = c
  rcases c with l | l | l | l
  · rfl
  · simp only [nI_pos hj, if_false, nI_clamp hj]
  · rfl
  · rfl
theorem rdR_pr {C : Nat → MC} {tl : MH} {a t j : Nat} (h : a < 131) (hj : j < 2 ^ 31) : rdR (pr C ++ tl) a t (nI j) = cR_get (C a) t j := by
  unfold rdR cR_get
  rw [pr_get h]
  generalize C a = c
  rcases c with l | l | l | l
  · rfl
  · rfl
  · simp only [nI_pos hj, if_false, nI_clamp hj]
  · rfl
def nul {α : Type} (x : Option (Option Nat)) (A : Option α) (F : Nat → Option α) : Option α := match x with
  | some (some b) => F b
  | some none => A
  | none => none
theorem rdRn_pr {α : Type} {C : Nat → MC} {tl : MH} {a t j : Nat} {A : Option α} {F : Nat → Option α} (h : a < 131) (hj : j < 2 ^ 31) : rdRn (pr C ++ tl) a t (nI j) A F = nul (cR_get (C a) t j) A F := by
  unfold rdRn nul
  rw [rdR_pr h hj]
  split
  · rename_i b hb; rw [hb]
  · rename_i hb; rw [hb]
  · rename_i hb; rw [hb]
theorem wrI_pr {C : Nat → MC} {tl : MH} {a j : Nat} {v : Int32} (h : a < 131) (hj : j < 2 ^ 31) : wrI (pr C ++ tl) a (nI j) v = wu C tl a (cI_set (C a) j v) := by
  unfold wrI cI_set wu
  rw [pr_get h]
  generalize C a = c
  rcases c with l | l | l | l
  · simp only [nI_pos hj, false_or, nI_clamp hj]
    split
    · rw [if_neg (by omega)]; rfl
    · rw [if_pos (by omega), pr_set h]; rfl
  · rfl
  · rfl
  · rfl
theorem wrL_pr {C : Nat → MC} {tl : MH} {a j : Nat} {v : Int64} (h : a < 131) (hj : j < 2 ^ 31) : wrL (pr C ++ tl) a (nI j) v = wu C tl a (cL_set (C a) j v) := by
  unfold wrL cL_set wu
  rw [pr_get h]
  generalize C a = c
  rcases c with l | l | l | l
  · rfl
  · simp only [nI_pos hj, false_or, nI_clamp hj]
    split
    · rw [if_neg (by omega)]; rfl
    · rw [if_pos (by omega), pr_set h]; rfl
  · rfl
  · rfl
theorem wrR_pr {C : Nat → MC} {tl : MH} {a t j : Nat} {v : Option Nat} (h : a < 131) (hj : j < 2 ^ 31) : wrR (pr C ++ tl) a t (nI j) v = wu C tl a (cR_set (C a) t j v) := by
  unfold wrR cR_set wu
  rw [pr_get h]
  generalize C a = c
  rcases c with l | l | q | l
  · rfl
  · rfl
  · simp only [nI_pos hj, false_or, nI_clamp hj]
    by_cases ht : q.1 = t
    · simp only [ht, if_true, not_true, or_false]
      split
      · rw [if_neg (by omega)]; rfl
      · rw [if_pos (by omega), pr_set h]; rfl
    · simp [ht]
  · rfl
theorem lD {α : Type} {l : List α} {j : Nat} (d : α) (h : j < l.length) : l[j]? = some (l.getD j d) := by
  rw [List.getD_eq_getElem?_getD, List.getElem?_eq_getElem h]
  rfl
theorem sD {α : Type} {l : List α} {j i : Nat} {v d : α} (h : j < l.length) : (l.set j v).getD i d = if i = j then v else l.getD i d := by
  rw [List.getD_eq_getElem?_getD, List.getElem?_set, List.getD_eq_getElem?_getD]
  by_cases e : i = j
  · subst e
    simp [h]
  · simp [e, Ne.symm e]
/-! a loop by an invariant; each turn goes on, or ends it -/
theorem lp_for {σ α : Type} {B : Nat → (σ → Option α) → σ → Option α} (I : Nat → σ → Prop) (M N : Nat) (E : σ → Option α) (step : ∀ i, i < N → ∀ s, I i s → ∃ s', I (i + 1) s' ∧ ∀ n k, M ≤ n → B n k s = k s') (ex : ∀ s, I N s → ∀ n k, M ≤ n → B n k s = E s) : ∀ (d i n : Nat) (s : σ), i + d = N → I i s → d + M < n → ∃ s', I N s' ∧ lp B n s = E s'
  | 0, i, n, s, hd, hI, hn => by
    obtain ⟨n, rfl⟩ : ∃ m, n = m + 1 := ⟨n - 1, by omega⟩
    have e : i = N := by omega
    subst e
    exact ⟨s, hI, by rw [lp_succ]; exact ex s hI n _ (by omega)⟩
  | d + 1, i, n, s, hd, hI, hn => by
    obtain ⟨n, rfl⟩ : ∃ m, n = m + 1 := ⟨n - 1, by omega⟩
    obtain ⟨s', hI', hs⟩ := step i (by omega) s hI
    obtain ⟨s2, h1, h2⟩ := lp_for I M N E step ex d (i + 1) n s' (by omega) hI' (by omega)
    exact ⟨s2, h1, by rw [lp_succ, hs n _ (by omega)]; exact h2⟩
theorem lp_for0 {σ α : Type} {B : Nat → (σ → Option α) → σ → Option α} (I : Nat → σ → Prop) (M N : Nat) (E : σ → Option α) (step : ∀ i, i < N → ∀ s, I i s → ∃ s', I (i + 1) s' ∧ ∀ n k, M ≤ n → B n k s = k s') (ex : ∀ s, I N s → ∀ n k, M ≤ n → B n k s = E s) {n : Nat} {s : σ} (hI : I 0 s) (hn : N + M < n) : ∃ s', I N s' ∧ lp B n s = E s' := lp_for I M N E step ex N 0 n s (by omega) hI hn
/-- the same, where a turn may end the method with an answer -/
theorem lp_forE {σ α : Type} {B : Nat → (σ → Option α) → σ → Option α} (I : Nat → σ → Prop) (Q : Option α → Prop) (M N : Nat) (step : ∀ i, i < N → ∀ s, I i s → (∃ s', I (i + 1) s' ∧ ∀ n k, M ≤ n → B n k s = k s') ∨ ∃ v, Q v ∧ ∀ n k, M ≤ n → B n k s = v) (ex : ∀ s, I N s → ∃ v, Q v ∧ ∀ n k, M ≤ n → B n k s = v) : ∀ (d i n : Nat) (s : σ), i + d = N → I i s → d + M < n → Q (lp B n s)
  | 0, i, n, s, hd, hI, hn => by
    obtain ⟨n, rfl⟩ : ∃ m, n = m + 1 := ⟨n - 1, by omega⟩
    have e : i = N := by omega
    subst e
    obtain ⟨v, hv, he⟩ := ex s hI
    rw [lp_succ, he n _ (by omega)]
    exact hv
  | d + 1, i, n, s, hd, hI, hn => by
    obtain ⟨n, rfl⟩ : ∃ m, n = m + 1 := ⟨n - 1, by omega⟩
    rcases step i (by omega) s hI with ⟨s', hI', hs⟩ | ⟨v, hv, he⟩
    · rw [lp_succ, hs n _ (by omega)]
      exact lp_forE I Q M N step ex d (i + 1) n s' (by omega) hI' (by omega)
    · rw [lp_succ, he n _ (by omega)]
      exact hv

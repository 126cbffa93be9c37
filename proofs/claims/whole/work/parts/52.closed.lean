/-! the constructors' tables, reckoned by the kernel -/
def eqC (a b : MC) : Bool := match a, b with
  | Sum.inl l, Sum.inl k => decide (l = k)
  | Sum.inr (Sum.inl l), Sum.inr (Sum.inl k) => decide (l = k)
  | Sum.inr (Sum.inr (Sum.inl l)), Sum.inr (Sum.inr (Sum.inl k)) => decide (l = k)
  | Sum.inr (Sum.inr (Sum.inr l)), Sum.inr (Sum.inr (Sum.inr k)) => decide (l = k)
  | _, _ => false
theorem eqC_eq {a b : MC} (h : eqC a b = true) : a = b := by
  unfold eqC at h
  split at h
  · rw [of_decide_eq_true h]
  · rw [of_decide_eq_true h]
  · rw [of_decide_eq_true h]
  · rw [of_decide_eq_true h]
  · cases h
def eqH : MH → MH → Bool
  | [], [] => true
  | a :: l, b :: k => eqC a b && eqH l k
  | _, _ => false
theorem eqH_eq : ∀ {a b : MH}, eqH a b = true → a = b
  | [], [], _ => rfl
  | a :: l, b :: k, h => by
    simp only [eqH, Bool.and_eq_true] at h
    rw [eqC_eq h.1, eqH_eq h.2]
  | [], _ :: _, h => by cases h
  | _ :: _, [], h => by cases h
def eqO (x : Option MH) (h : MH) : Bool := match x with
  | some g => eqH g h
  | none => false
theorem eqO_eq {x : Option MH} {h : MH} (e : eqO x h = true) : x = some h := by
  cases x with
  | none => cases e
  | some g => rw [eqH_eq (show eqH g h = true from e)]
def zl (l : List Int) : List Int32 := l.map Int32.ofInt
def mObj (thr sta pri tra : Value) : MC := cO 12 [thr, sta, pri, .ref 115, .ref 116, .ref 117, .ref 118, .ref 119, .ref 120, .ref 121, .ref 122, .ref 123, .ref 124, tra, .ref 125, .ref 126, .ref 127, .ref 128, .ref 129, .ref 130]
def MKN : List Int32 := zl [1, 2, 3, 3, 4, 4, 4, 4, 5, 5, 5, 5, 5, 5, 5, 5, 5, 6, 6, 6, 6, 6, 6, 6, 6, 6, 6, 6, 6, 6, 6, 6, 6, 6, 6, 6, 6, 0]
def MLV : List Int32 := zl [0, 0, 0, 0, 0, 0, 0, 1, 0, 0, 0, 0, 0, 1, 2, 0, 0, 0, 0, 1, 1, 0, 0, 0, 0, 1, 2, 3, 0, 0, 0, 1, 2, 2, 0, 0, 0, 1, 2, 1, 0, 0, 0, 1, 1, 1, 0, 0, 0, 1, 2, 3, 4, 0, 0, 1, 2, 3, 3, 0, 0, 1, 2, 3, 2, 0, 0, 1, 2, 3, 1, 0, 0, 1, 2, 2, 2, 0, 0, 1, 2, 2, 1, 0, 0, 1, 2, 1, 2, 0, 0, 1, 2, 1, 1, 0, 0, 1, 1, 1, 1, 0, 0, 1, 2, 3, 4, 5, 0, 1, 2, 3, 4, 4, 0, 1, 2, 3, 4, 3, 0, 1, 2, 3, 4, 2, 0, 1, 2, 3, 4, 1, 0, 1, 2, 3, 3, 3, 0, 1, 2, 3, 3, 2, 0, 1, 2, 3, 3, 1, 0, 1, 2, 3, 2, 3, 0, 1, 2, 3, 2, 2, 0, 1, 2, 3, 2, 1, 0, 1, 2, 3, 1, 2, 0, 1, 2, 3, 1, 1, 0, 1, 2, 2, 2, 2, 0, 1, 2, 2, 2, 1, 0, 1, 2, 2, 1, 2, 0, 1, 2, 2, 1, 1, 0, 1, 2, 1, 2, 1, 0, 1, 2, 1, 1, 1, 0, 1, 1, 1, 1, 1, 0, 0, 0, 0, 0, 0, 0, 0, 0, 0, 0, 0]
def HMa (k l : List Int32) : MH := List.replicate 114 (cO 99 []) ++ [mObj (.int 0) (.int 0) ine (.int 0), cI k, cI l] ++ List.replicate 14 (cO 99 [])
theorem HM_made : fM_init_200 60000 (HMa (List.replicate 38 0) (List.replicate 234 0)) 114 = some (HMa MKN MLV) := eqO_eq (by decide +kernel)

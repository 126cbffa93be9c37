/-! what a method does where some of the heap isn't known (cells cO 99 [], fields .retAddr 0) it does wherever it is filled in -/
def ine : Value := .retAddr 0
def mcV (v : Value) (k : Option Value) : Value := if v = ine then k.getD v else v
def mcF (fs ks : List Value) : List Value := (List.range fs.length).map fun i => mcV (fs.getD i .null) ks[i]?
def mc (c : MC) (k : Option MC) : MC := match c with
  | Sum.inr (Sum.inr (Sum.inr q)) => if q = (99, []) then k.getD c else match k with
    | some (Sum.inr (Sum.inr (Sum.inr w))) => cO q.1 (mcF q.2 w.2)
    | _ => c
  | _ => c
def mrg (h kk : MH) : MH := (List.range h.length).map fun a => mc (h.getD a (cO 99 [])) kk[a]?
theorem mrg_get {h kk : MH} {a : Nat} {c : MC} (e : h[a]? = some c) : (mrg h kk)[a]? = some (mc c kk[a]?) := by
  have hl := (List.getElem?_eq_some_iff.mp e).1
  unfold mrg
  rw [List.getElem?_map, List.getElem?_range hl]
  show some (mc (h.getD a (cO 99 [])) kk[a]?) = _
  rw [List.getD_eq_getElem?_getD, e]
  rfl
theorem mrg_len (h kk : MH) : (mrg h kk).length = h.length := by simp [mrg]
theorem mrg_none {h kk : MH} {a : Nat} (e : h.length ≤ a) : (mrg h kk)[a]? = none := List.getElem?_eq_none (by rw [mrg_len]; exact e)
theorem mcF_len (fs ks : List Value) : (mcF fs ks).length = fs.length := by simp [mcF]
theorem mcF_get {fs ks : List Value} {j : Nat} {v : Value} (e : fs[j]? = some v) : (mcF fs ks)[j]? = some (mcV v ks[j]?) := by
  have hl := (List.getElem?_eq_some_iff.mp e).1
  unfold mcF
  rw [List.getElem?_map, List.getElem?_range hl]
  show some (mcV (fs.getD j .null) ks[j]?) = _
  rw [List.getD_eq_getElem?_getD, e]
  rfl
theorem mcF_set {fs ks : List Value} {j : Nat} {v : Value} (hv : v ≠ ine) : mcF (fs.set j v) ks = (mcF fs ks).set j v := by
  apply List.ext_getElem?
  intro i
  by_cases hi : i < fs.length
  · have e : (fs.set j v)[i]? = some (if j = i then v else fs[i]) := by
      rw [List.getElem?_set]
      by_cases hj : j = i
      · simp [hj, hi]
      · simp [hj, hi]
    rw [mcF_get e, List.getElem?_set]
    by_cases hj : j = i
    · subst hj
      simp [hi, mcF_len, mcV, hv]
    · rw [if_neg hj, if_neg hj, mcF_get (List.getElem?_eq_getElem hi)]
  · rw [List.getElem?_eq_none (by rw [mcF_len, List.length_set]; omega), List.getElem?_eq_none (by rw [List.length_set, mcF_len]; omega)]
/-- the merged cell of a known object -/
theorem mc_obj {t : Nat} {fs : List Value} {k : Option MC} (h : ¬ (t, fs) = (99, [])) : ∃ ks, mc (cO t fs) k = cO t (mcF fs ks) := by
  unfold mc
  simp only
  rw [if_neg h]
  have self : mcF fs fs = fs := by
    apply List.ext_getElem?
    intro i
    by_cases hi : i < fs.length
    · rw [mcF_get (List.getElem?_eq_getElem hi), List.getElem?_eq_getElem hi]
      unfold mcV
      split <;> simp
    · rw [List.getElem?_eq_none (by rw [mcF_len]; omega), List.getElem?_eq_none (by omega)]
  split
  · exact ⟨_, rfl⟩
  · exact ⟨fs, by rw [self]⟩
theorem mc_set {t : Nat} {fs : List Value} {k : Option MC} {j : Nat} {v : Value} (hj : j < fs.length) (hv : v ≠ ine) : ∃ ks, mc (cO t fs) k = cO t (mcF fs ks) ∧ mc (cO t (fs.set j v)) k = cO t ((mcF fs ks).set j v) := by
  have h1 : ¬ (t, fs) = (99, []) := fun e => by cases e; simp at hj
  have h2 : ¬ (t, fs.set j v) = (99, []) := fun e => by
    have e2 : fs.set j v = [] := by injection e
    have := congrArg List.length e2
    simp at this
    subst this
    simp at hj
  unfold mc
  simp only
  rw [if_neg h1, if_neg h2]
  have self : mcF fs fs = fs := by
    apply List.ext_getElem?
    intro i
    by_cases hi : i < fs.length
    · rw [mcF_get (List.getElem?_eq_getElem hi), List.getElem?_eq_getElem hi]
      unfold mcV
      split <;> simp
    · rw [List.getElem?_eq_none (by rw [mcF_len]; omega), List.getElem?_eq_none (by omega)]
  split
  · exact ⟨_, rfl, by rw [mcF_set hv]⟩
  · exact ⟨fs, by rw [self], by rw [self]⟩
theorem mrg_set {h kk : MH} {a : Nat} {c : MC} : mrg (h.set a c) kk = (mrg h kk).set a (mc c kk[a]?) := by
  apply List.ext_getElem?
  intro i
  by_cases hi : i < h.length
  · by_cases hj : a = i
    · subst hj
      rw [mrg_get (c := c) (by simp [hi]), List.getElem?_set]
      simp [mrg_len, hi]
    · rw [mrg_get (c := h[i]) (by rw [List.getElem?_set_ne hj]; exact List.getElem?_eq_getElem hi), List.getElem?_set_ne hj, mrg_get (List.getElem?_eq_getElem hi)]
  · rw [mrg_none (by rw [List.length_set]; omega), List.getElem?_eq_none (by rw [List.length_set, mrg_len]; omega)]
/-- a cell that is known wholly -/
def full : MC → Bool
  | Sum.inr (Sum.inr (Sum.inr q)) => !(q == (99, [])) && q.2.all fun v => !(v == ine)
  | _ => true
theorem mc_full {c : MC} {k : Option MC} (h : full c = true) : mc c k = c := by
  unfold full at h
  split at h
  · rename_i q
    simp only [Bool.and_eq_true, Bool.not_eq_true', beq_eq_false_iff_ne, ne_eq, List.all_eq_true] at h
    unfold mc
    simp only
    rw [if_neg h.1]
    split
    · rename_i w
      show cO q.1 (mcF q.2 w.2) = cO q.1 q.2
      congr
      apply List.ext_getElem?
      intro i
      by_cases hi : i < q.2.length
      · rw [mcF_get (List.getElem?_eq_getElem hi), List.getElem?_eq_getElem hi]
        unfold mcV
        rw [if_neg (h.2 _ (List.getElem_mem hi))]
      · rw [List.getElem?_eq_none (by rw [mcF_len]; omega), List.getElem?_eq_none (by omega)]
    · rfl
  · rename_i hn
    unfold mc
    split
    · rename_i q
      exact absurd rfl (hn q)
    · rfl
theorem mrg_app {h kk l : MH} (hl : ∀ c ∈ l, full c = true) : mrg (h ++ l) kk = mrg h kk ++ l := by
  apply List.ext_getElem?
  intro i
  by_cases hi : i < h.length
  · rw [mrg_get (c := h[i]) (by rw [List.getElem?_append_left hi]; exact List.getElem?_eq_getElem hi), List.getElem?_append_left (by rw [mrg_len]; exact hi), mrg_get (List.getElem?_eq_getElem hi)]
  · rw [List.getElem?_append_right (by rw [mrg_len]; omega), mrg_len]
    by_cases h2 : i - h.length < l.length
    · rw [mrg_get (c := l[i - h.length]) (by rw [List.getElem?_append_right (by omega)]; exact List.getElem?_eq_getElem h2), mc_full (hl _ (List.getElem_mem h2)), List.getElem?_eq_getElem h2]
    · rw [mrg_none (by rw [List.length_append]; omega), List.getElem?_eq_none (by omega)]
theorem bst {α β : Type} {x : Option α} {F : α → Option β} {v : α} {o : Option β} (e : x = some v) (k : F v = o) : x.bind F = o := by rw [e]; exact k
theorem bst2 {α β γ : Type} {x : Option (α × β)} {F : α → β → Option γ} {u : α} {v : β} {o : Option γ} (e : x = some (u, v)) (k : F u v = o) : bnd2 x F = o := by rw [e]; exact k
theorem ite_m {α β : Type} {c : Prop} [Decidable c] {A B : Option α} {A' B' : Option β} {o : α} {o' : Option β} (hf : (if c then A else B) = some o) (k1 : A = some o → A' = o') (k2 : B = some o → B' = o') : (if c then A' else B') = o' := by
  by_cases h : c
  · rw [if_pos h]; exact k1 (if_t hf h)
  · rw [if_neg h]; exact k2 (if_f hf h)
section MO
variable {h h1 kk : MH} {a : Nat} {S : List Nat} {k : Nat}
theorem gf_m {v : Value} (hv : v ≠ ine) (e : gf h a S k = some v) : gf (mrg h kk) a S k = some v := by
  obtain ⟨t, fs, h1, h2, h3⟩ := gf_of e
  obtain ⟨ks, h4⟩ := mc_obj (t := t) (fs := fs) (k := kk[a]?) (fun q => by cases q; simp at h3)
  unfold gf
  rw [mrg_get h1, h4]
  simp only
  rw [if_pos h2, mcF_get h3]
  unfold mcV
  rw [if_neg hv]
theorem gfI_m {v : Int32} (e : gfI h a S k = some v) : gfI (mrg h kk) a S k = some v := by
  unfold gfI
  rw [gf_m (by intro q; cases q) (gfI_of e)]
theorem gfL_m {v : Int64} (e : gfL h a S k = some v) : gfL (mrg h kk) a S k = some v := by
  unfold gfL
  rw [gf_m (by intro q; cases q) (gfL_of e)]
theorem gfR_m {v : Nat} (e : gfR h a S k = some v) : gfR (mrg h kk) a S k = some v := by
  unfold gfR
  rw [gf_m (by intro q; cases q) (gfR_of e)]
theorem pf_m {v : Value} (hv : v ≠ ine) (e : pf h a S k v = some h1) : pf (mrg h kk) a S k v = some (mrg h1 kk) := by
  obtain ⟨t, fs, e1, e2, e3, rfl⟩ := pf_of e
  obtain ⟨ks, h4, h5⟩ := mc_set (t := t) (k := kk[a]?) e3 hv
  unfold pf
  rw [mrg_get e1, h4]
  simp only
  rw [if_pos ⟨e2, by rw [mcF_len]; exact e3⟩, mrg_set, h5]
theorem chk_m {t : Nat} {u : Unit} (ht : t ≠ 99) (e : chk h a t = some u) : chk (mrg h kk) a t = some u := by
  obtain ⟨fs, h1⟩ := chk_of e
  obtain ⟨ks, h4⟩ := mc_obj (t := t) (fs := fs) (k := kk[a]?) (fun q => by cases q; exact ht rfl)
  unfold chk
  rw [mrg_get h1, h4]
  simp
theorem tg_m {t : Nat} (ht : t ≠ 99) (e : tg h a = some t) : tg (mrg h kk) a = some t := by
  obtain ⟨fs, h1⟩ := tg_of e
  obtain ⟨ks, h4⟩ := mc_obj (t := t) (fs := fs) (k := kk[a]?) (fun q => by cases q; exact ht rfl)
  unfold tg
  rw [mrg_get h1, h4]
theorem rdI_m {i v : Int32} (e : rdI h a i = some v) : rdI (mrg h kk) a i = some v := by
  obtain ⟨l, h1, -, -⟩ := rdI_of e
  unfold rdI at e ⊢
  rw [h1] at e
  rw [mrg_get h1]
  exact e
theorem rdL_m {i : Int32} {v : Int64} (e : rdL h a i = some v) : rdL (mrg h kk) a i = some v := by
  obtain ⟨l, h1, -, -⟩ := rdL_of e
  unfold rdL at e ⊢
  rw [h1] at e
  rw [mrg_get h1]
  exact e
theorem rdR_m {t : Nat} {i : Int32} {v : Option Nat} (e : rdR h a t i = some v) : rdR (mrg h kk) a t i = some v := by
  obtain ⟨l, h1, -, -⟩ := rdR_of e
  unfold rdR at e ⊢
  rw [h1] at e
  rw [mrg_get h1]
  exact e
theorem rdRn_m {α β : Type} {t : Nat} {i : Int32} {A : Option α} {F : Nat → Option α} {A' : Option β} {F' : Nat → Option β} {o : α} {o' : Option β} (hf : rdRn h a t i A F = some o) (k1 : A = some o → A' = o') (k2 : ∀ b, F b = some o → F' b = o') : rdRn (mrg h kk) a t i A' F' = o' := by
  unfold rdRn at hf ⊢
  split at hf
  · rename_i b hb
    rw [rdR_m hb]
    exact k2 b hf
  · rename_i hb
    rw [rdR_m hb]
    exact k1 hf
  · cases hf
theorem wrI_m {i v : Int32} (e : wrI h a i v = some h1) : wrI (mrg h kk) a i v = some (mrg h1 kk) := by
  obtain ⟨l, e1, e2, rfl⟩ := wrI_of e
  unfold wrI
  rw [mrg_get e1, mrg_set]
  simp only [mc]
  rw [if_neg e2]
theorem wrL_m {i : Int32} {v : Int64} (e : wrL h a i v = some h1) : wrL (mrg h kk) a i v = some (mrg h1 kk) := by
  obtain ⟨l, e1, e2, rfl⟩ := wrL_of e
  unfold wrL
  rw [mrg_get e1, mrg_set]
  simp only [mc]
  rw [if_neg e2]
theorem wrR_m {t : Nat} {i : Int32} {v : Option Nat} (e : wrR h a t i v = some h1) : wrR (mrg h kk) a t i v = some (mrg h1 kk) := by
  obtain ⟨l, e1, e2, rfl⟩ := wrR_of e
  unfold wrR
  rw [mrg_get e1, mrg_set]
  simp only [mc]
  rw [if_neg (fun q => q.elim (fun z => e2 (Or.inl z)) (fun z => z.elim (fun w => e2 (Or.inr w)) (fun w => w trivial)))]
theorem wrO_m {t v : Nat} {i : Int32} (e : wrO h a t i v = some h1) : wrO (mrg h kk) a t i v = some (mrg h1 kk) := by
  obtain ⟨tv, fs, e1, e2, e3⟩ := wrO_of e
  unfold wrO
  rw [tg_m (t := tv) (fun q => by subst q; simp [okSt] at e2) (by unfold tg; rw [e1])]
  simp only
  rw [if_pos e2]
  exact wrR_m e3
theorem lenA_m {v : Int32} (e : lenA h a = some v) : lenA (mrg h kk) a = some v := by
  unfold lenA at e
  split at e
  · rename_i l hl
    unfold lenA
    rw [mrg_get hl]
    exact e
  · rename_i l hl
    unfold lenA
    rw [mrg_get hl]
    exact e
  · cases e
theorem alc_m {α β : Type} {c : MC} {F : MH → Nat → Option α} {F' : MH → Nat → Option β} {o : α} {o' : Option β} (hc : full c = true) (hf : alc h c F = some o) (k : ∀ h1 b, F h1 b = some o → F' (mrg h1 kk) b = o') : alc (mrg h kk) c F' = o' := by
  have := k _ _ hf
  rw [mrg_app (fun c' h' => by rw [List.mem_singleton.mp h']; exact hc)] at this
  unfold alc
  rw [mrg_len]
  exact this
theorem naI_m {α β : Type} {n : Int32} {N : Nat} {F : MH → Nat → Option α} {F' : MH → Nat → Option β} {o : α} {o' : Option β} (hf : naI h n N F = some o) (k : ∀ h1 b, F h1 b = some o → F' (mrg h1 kk) b = o') : naI (mrg h kk) n N F' = o' := by
  unfold naI at hf ⊢
  split at hf
  · cases hf
  · rename_i hn
    rw [if_neg hn]
    exact alc_m rfl hf k
theorem naL_m {α β : Type} {n : Int32} {N : Nat} {F : MH → Nat → Option α} {F' : MH → Nat → Option β} {o : α} {o' : Option β} (hf : naL h n N F = some o) (k : ∀ h1 b, F h1 b = some o → F' (mrg h1 kk) b = o') : naL (mrg h kk) n N F' = o' := by
  unfold naL at hf ⊢
  split at hf
  · cases hf
  · rename_i hn
    rw [if_neg hn]
    exact alc_m rfl hf k
theorem naR_m {α β : Type} {t : Nat} {n : Int32} {N : Nat} {F : MH → Nat → Option α} {F' : MH → Nat → Option β} {o : α} {o' : Option β} (hf : naR h t n N F = some o) (k : ∀ h1 b, F h1 b = some o → F' (mrg h1 kk) b = o') : naR (mrg h kk) t n N F' = o' := by
  unfold naR at hf ⊢
  split at hf
  · cases hf
  · rename_i hn
    rw [if_neg hn]
    exact alc_m rfl hf k
theorem naM_m {α β : Type} {N K : Nat} {F : MH → Nat → Option α} {F' : MH → Nat → Option β} {o : α} {o' : Option β} (hf : naM h N K F = some o) (k : ∀ h1 b, F h1 b = some o → F' (mrg h1 kk) b = o') : naM (mrg h kk) N K F' = o' := by
  have := k _ _ hf
  rw [mrg_app (fun c' h' => by
    rcases List.mem_cons.mp h' with rfl | h2
    · rfl
    · rw [List.eq_of_mem_replicate h2]; rfl)] at this
  unfold naM
  rw [mrg_len]
  exact this
theorem retZ_m {v r : Int32} (e : retZ h v = some (h1, r)) : retZ (mrg h kk) v = some (mrg h1 kk, r) := by
  unfold retZ at e ⊢
  split at e
  · rename_i hv
    rw [if_pos hv]
    cases e
    rfl
  · cases e
theorem nzI_m {β : Type} {b : Int32} {A : Option β} {o : Option β} (hb : ¬ b = 0) (k : A = o) : nzI b A = o := by unfold nzI; rw [if_neg hb]; exact k
theorem nzL_m {β : Type} {b : Int64} {A : Option β} {o : Option β} (hb : ¬ b = 0) (k : A = o) : nzL b A = o := by unfold nzL; rw [if_neg hb]; exact k
theorem lp_m {σ α β : Type} {B : Nat → (σ → Option α) → σ → Option α} {B' : Nat → (σ → Option β) → σ → Option β} {ψ : σ → σ} {o : α} {o' : Option β} (step : ∀ n k k', (∀ s, k s = some o → k' (ψ s) = o') → ∀ s, B n k s = some o → B' n k' (ψ s) = o') : ∀ n s, lp B n s = some o → lp B' n (ψ s) = o'
  | 0, s, h => by cases h
  | n + 1, s, h => step n (lp B n) (lp B' n) (lp_m step n) s h
end MO

/-! what a method reads and writes in the small heap; rows for fields, arrays, new cells -/
def gf (h : MH) (a : Nat) (S : List Nat) (k : Nat) : Option Value := match h[a]? with
  | some (Sum.inr (Sum.inr (Sum.inr q))) => if q.1 ∈ S then q.2[k]? else none
  | _ => none
def gfI (h : MH) (a : Nat) (S : List Nat) (k : Nat) : Option Int32 := match gf h a S k with
  | some (.int v) => some v
  | _ => none
def gfL (h : MH) (a : Nat) (S : List Nat) (k : Nat) : Option Int64 := match gf h a S k with
  | some (.long v) => some v
  | _ => none
def gfR (h : MH) (a : Nat) (S : List Nat) (k : Nat) : Option Nat := match gf h a S k with
  | some (.ref v) => some v
  | _ => none
def pf (h : MH) (a : Nat) (S : List Nat) (k : Nat) (v : Value) : Option MH := match h[a]? with
  | some (Sum.inr (Sum.inr (Sum.inr q))) => if q.1 ∈ S ∧ k < q.2.length then some (h.set a (cO q.1 (q.2.set k v))) else none
  | _ => none
def chk (h : MH) (a : Nat) (t : Nat) : Option Unit := match h[a]? with
  | some (Sum.inr (Sum.inr (Sum.inr q))) => if q.1 = t then some () else none
  | _ => none
def tg (h : MH) (a : Nat) : Option Nat := match h[a]? with
  | some (Sum.inr (Sum.inr (Sum.inr q))) => some q.1
  | _ => none
def rdI (h : MH) (a : Nat) (i : Int32) : Option Int32 := match h[a]? with
  | some (Sum.inl l) => if i < 0 then none else l[i.toNatClampNeg]?
  | _ => none
def rdL (h : MH) (a : Nat) (i : Int32) : Option Int64 := match h[a]? with
  | some (Sum.inr (Sum.inl l)) => if i < 0 then none else l[i.toNatClampNeg]?
  | _ => none
def rdR (h : MH) (a t : Nat) (i : Int32) : Option (Option Nat) := match h[a]? with
  | some (Sum.inr (Sum.inr (Sum.inl q))) => if q.1 = t then (if i < 0 then none else q.2[i.toNatClampNeg]?) else none
  | _ => none
def rdRn {α : Type} (h : MH) (a t : Nat) (i : Int32) (A : Option α) (F : Nat → Option α) : Option α := match rdR h a t i with
  | some (some b) => F b
  | some none => A
  | none => none
def wrI (h : MH) (a : Nat) (i : Int32) (v : Int32) : Option MH := match h[a]? with
  | some (Sum.inl l) => if i < 0 ∨ l.length ≤ i.toNatClampNeg then none else some (h.set a (cI (l.set i.toNatClampNeg v)))
  | _ => none
def wrL (h : MH) (a : Nat) (i : Int32) (v : Int64) : Option MH := match h[a]? with
  | some (Sum.inr (Sum.inl l)) => if i < 0 ∨ l.length ≤ i.toNatClampNeg then none else some (h.set a (cL (l.set i.toNatClampNeg v)))
  | _ => none
/-- which objects (by tags) an array of references (by its tag) takes -/
def okSt (t tv : Nat) : Bool := (t == 3 && tv == 6) || (t == 4 && (tv == 8 || tv == 1 || tv == 2 || tv == 4))
def wrR (h : MH) (a t : Nat) (i : Int32) (v : Option Nat) : Option MH := match h[a]? with
  | some (Sum.inr (Sum.inr (Sum.inl q))) => if i < 0 ∨ q.2.length ≤ i.toNatClampNeg ∨ ¬ q.1 = t then none else some (h.set a (cR t (q.2.set i.toNatClampNeg v)))
  | _ => none
def wrO (h : MH) (a t : Nat) (i : Int32) (v : Nat) : Option MH := match tg h v with
  | some tv => if okSt t tv then wrR h a t i (some v) else none
  | none => none
def lenA (h : MH) (a : Nat) : Option Int32 := match h[a]? with
  | some (Sum.inl l) => some (Int32.ofNat l.length)
  | some (Sum.inr (Sum.inl l)) => some (Int32.ofNat l.length)
  | _ => none
def alc {α : Type} (h : MH) (c : MC) (F : MH → Nat → Option α) : Option α := F (h ++ [c]) h.length
def naI {α : Type} (h : MH) (n : Int32) (N : Nat) (F : MH → Nat → Option α) : Option α := if n < 0 ∨ N < n.toNatClampNeg then none else alc h (cI (List.replicate n.toNatClampNeg 0)) F
def naL {α : Type} (h : MH) (n : Int32) (N : Nat) (F : MH → Nat → Option α) : Option α := if n < 0 ∨ N < n.toNatClampNeg then none else alc h (cL (List.replicate n.toNatClampNeg 0)) F
def naR {α : Type} (h : MH) (t : Nat) (n : Int32) (N : Nat) (F : MH → Nat → Option α) : Option α := if n < 0 ∨ N < n.toNatClampNeg then none else alc h (cR t (List.replicate n.toNatClampNeg none)) F
theorem bnd {α β : Type} {x : Option α} {F : α → Option β} {o : β} (h : x.bind F = some o) : ∃ v, x = some v ∧ F v = some o := by
  cases x with
  | none => cases h
  | some v => exact ⟨v, rfl, h⟩
def bnd2 {α β γ : Type} (x : Option (α × β)) (F : α → β → Option γ) : Option γ := match x with
  | some q => F q.1 q.2
  | none => none
theorem bndp {α β γ : Type} {x : Option (α × β)} {F : α → β → Option γ} {o : γ} (h : bnd2 x F = some o) : ∃ u v, x = some (u, v) ∧ F u v = some o := by
  cases x with
  | none => cases h
  | some q => exact ⟨q.1, q.2, rfl, h⟩
def nzI {α : Type} (b : Int32) (A : Option α) : Option α := if b = 0 then none else A
def nzL {α : Type} (b : Int64) (A : Option α) : Option α := if b = 0 then none else A
theorem nzI_of {α : Type} {b : Int32} {A : Option α} {o : α} (h : nzI b A = some o) : ¬ b = 0 ∧ A = some o := by
  unfold nzI at h
  split at h
  · cases h
  · exact ⟨by assumption, h⟩
theorem nzL_of {α : Type} {b : Int64} {A : Option α} {o : α} (h : nzL b A = some o) : ¬ b = 0 ∧ A = some o := by
  unfold nzL at h
  split at h
  · cases h
  · exact ⟨by assumption, h⟩
theorem gf_of {h : MH} {a : Nat} {S : List Nat} {k : Nat} {v : Value} (e : gf h a S k = some v) : ∃ t fs, h[a]? = some (cO t fs) ∧ t ∈ S ∧ fs[k]? = some v := by
  unfold gf at e
  split at e
  · rename_i q hq
    split at e
    · exact ⟨q.1, q.2, hq, by assumption, e⟩
    · cases e
  · cases e
theorem gfI_of {h : MH} {a : Nat} {S : List Nat} {k : Nat} {v : Int32} (e : gfI h a S k = some v) : gf h a S k = some (.int v) := by
  unfold gfI at e
  split at e
  · rename_i hq
    cases e
    exact hq
  · cases e
theorem gfL_of {h : MH} {a : Nat} {S : List Nat} {k : Nat} {v : Int64} (e : gfL h a S k = some v) : gf h a S k = some (.long v) := by
  unfold gfL at e
  split at e
  · rename_i hq
    cases e
    exact hq
  · cases e
theorem gfR_of {h : MH} {a : Nat} {S : List Nat} {k : Nat} {v : Nat} (e : gfR h a S k = some v) : gf h a S k = some (.ref v) := by
  unfold gfR at e
  split at e
  · rename_i hq
    cases e
    exact hq
  · cases e
theorem pf_of {h h1 : MH} {a : Nat} {S : List Nat} {k : Nat} {v : Value} (e : pf h a S k v = some h1) : ∃ t fs, h[a]? = some (cO t fs) ∧ t ∈ S ∧ k < fs.length ∧ h1 = h.set a (cO t (fs.set k v)) := by
  unfold pf at e
  split at e
  · rename_i q hq
    split at e
    · rename_i hc
      cases e
      exact ⟨q.1, q.2, hq, hc.1, hc.2, rfl⟩
    · cases e
  · cases e
theorem chk_of {h : MH} {a t : Nat} {u : Unit} (e : chk h a t = some u) : ∃ fs, h[a]? = some (cO t fs) := by
  unfold chk at e
  split at e
  · rename_i q hq
    split at e
    · rename_i hc
      subst hc
      exact ⟨q.2, hq⟩
    · cases e
  · cases e
theorem tg_of {h : MH} {a t : Nat} (e : tg h a = some t) : ∃ fs, h[a]? = some (cO t fs) := by
  unfold tg at e
  split at e
  · rename_i q hq
    cases e
    exact ⟨q.2, hq⟩
  · cases e
theorem in_of {i : Int32} {n : Nat} (h0 : ¬ i < 0) (h : i.toNatClampNeg < n) : vp_in i n := fun q => q.elim h0 (fun z => by omega)
theorem rdI_of {h : MH} {a : Nat} {i v : Int32} (e : rdI h a i = some v) : ∃ l, h[a]? = some (cI l) ∧ vp_in i l.length ∧ l.getD i.toNatClampNeg 0 = v := by
  unfold rdI at e
  split at e
  · rename_i l hl
    split at e
    · cases e
    · rename_i h0
      refine ⟨l, hl, in_of h0 (List.getElem?_eq_some_iff.mp e).1, ?_⟩
      rw [List.getD_eq_getElem?_getD, e]
      rfl
  · cases e
theorem rdL_of {h : MH} {a : Nat} {i : Int32} {v : Int64} (e : rdL h a i = some v) : ∃ l, h[a]? = some (cL l) ∧ vp_in i l.length ∧ l.getD i.toNatClampNeg 0 = v := by
  unfold rdL at e
  split at e
  · rename_i l hl
    split at e
    · cases e
    · rename_i h0
      refine ⟨l, hl, in_of h0 (List.getElem?_eq_some_iff.mp e).1, ?_⟩
      rw [List.getD_eq_getElem?_getD, e]
      rfl
  · cases e
theorem rdR_of {h : MH} {a t : Nat} {i : Int32} {v : Option Nat} (e : rdR h a t i = some v) : ∃ l, h[a]? = some (cR t l) ∧ vp_in i l.length ∧ l.getD i.toNatClampNeg none = v := by
  unfold rdR at e
  split at e
  · rename_i q hl
    split at e
    · rename_i ht
      subst ht
      split at e
      · cases e
      · rename_i h0
        refine ⟨q.2, hl, in_of h0 (List.getElem?_eq_some_iff.mp e).1, ?_⟩
        rw [List.getD_eq_getElem?_getD, e]
        rfl
    · cases e
  · cases e
theorem wrI_of {h h1 : MH} {a : Nat} {i v : Int32} (e : wrI h a i v = some h1) : ∃ l, h[a]? = some (cI l) ∧ vp_in i l.length ∧ h1 = h.set a (cI (l.set i.toNatClampNeg v)) := by
  unfold wrI at e
  split at e
  · rename_i l hl
    split at e
    · cases e
    · rename_i h0
      cases e
      exact ⟨l, hl, fun q => h0 q, rfl⟩
  · cases e
theorem wrL_of {h h1 : MH} {a : Nat} {i : Int32} {v : Int64} (e : wrL h a i v = some h1) : ∃ l, h[a]? = some (cL l) ∧ vp_in i l.length ∧ h1 = h.set a (cL (l.set i.toNatClampNeg v)) := by
  unfold wrL at e
  split at e
  · rename_i l hl
    split at e
    · cases e
    · rename_i h0
      cases e
      exact ⟨l, hl, fun q => h0 q, rfl⟩
  · cases e
theorem wrR_of {h h1 : MH} {a t : Nat} {i : Int32} {v : Option Nat} (e : wrR h a t i v = some h1) : ∃ l, h[a]? = some (cR t l) ∧ vp_in i l.length ∧ h1 = h.set a (cR t (l.set i.toNatClampNeg v)) := by
  unfold wrR at e
  split at e
  · rename_i q hl
    split at e
    · cases e
    · rename_i h0
      cases e
      have ht : q.1 = t := Classical.byContradiction fun z => h0 (Or.inr (Or.inr z))
      subst ht
      exact ⟨q.2, hl, fun z => h0 (z.elim Or.inl (fun w => Or.inr (Or.inl w))), rfl⟩
  · cases e
theorem wrO_of {h h1 : MH} {a t v : Nat} {i : Int32} (e : wrO h a t i v = some h1) : ∃ tv fs, h[v]? = some (cO tv fs) ∧ okSt t tv = true ∧ wrR h a t i (some v) = some h1 := by
  unfold wrO at e
  split at e
  · rename_i tv ht
    obtain ⟨fs, hfs⟩ := tg_of ht
    split at e
    · exact ⟨tv, fs, hfs, by assumption, e⟩
    · cases e
  · cases e
theorem va_P1 {D : va_G} {cl : List vw_C} {q : Nat × va_E} {H : Heap} (h : va_at D cl q H) : va_P D cl [q] H := fun k q' hq => by
  cases k with
  | zero => cases hq; exact h
  | succ k => simp at hq
theorem cO_ne {t : Nat} {fs : List Value} {q : vw_C} (h : classes[t]? = some q) : cO t fs ≠ cO 99 [] := by
  intro e
  have e2 : t = 99 := by injection e with e; injection e with e; injection e with e; injection e
  subst e2
  cases h
theorem MR.obj {g : Gh} {H : Heap} {h : MH} {a t : Nat} {fs : List Value} {q : vw_C} (hM : MR g H h) (ha : h[a]? = some (cO t fs)) (hq : classes[t]? = some q) : ad g a = gB g + a ∧ va_at (gD g) classes (gB g + a, .inr (t, fs.map (tr g))) H ∧ 0 < a := by
  have h0 := hM.pos ha (cO_ne hq)
  exact ⟨ad_pos h0, hM.2.2.2 a _ h0 ha, h0⟩
theorem MR.ints {g : Gh} {H : Heap} {h : MH} {a : Nat} {l : List Int32} (hM : MR g H h) (ha : h[a]? = some (cI l)) : ad g a = gB g + a ∧ va_at (gD g) classes (gB g + a, .inl (gA g 0, (l.length, .inl (fun j => l.getD j 0)))) H ∧ 0 < a := by
  have h0 := hM.pos ha (by intro e; cases e)
  exact ⟨ad_pos h0, hM.2.2.2 a _ h0 ha, h0⟩
theorem MR.longs {g : Gh} {H : Heap} {h : MH} {a : Nat} {l : List Int64} (hM : MR g H h) (ha : h[a]? = some (cL l)) : ad g a = gB g + a ∧ va_at (gD g) classes (gB g + a, .inl (gA g 1, (l.length, .inr (.inl (fun j => l.getD j 0))))) H ∧ 0 < a := by
  have h0 := hM.pos ha (by intro e; cases e)
  exact ⟨ad_pos h0, hM.2.2.2 a _ h0 ha, h0⟩
theorem MR.refs {g : Gh} {H : Heap} {h : MH} {a t : Nat} {l : List (Option Nat)} (hM : MR g H h) (ha : h[a]? = some (cR t l)) : ad g a = gB g + a ∧ va_at (gD g) classes (gB g + a, .inl (gA g t, (l.length, .inr (.inr (.inr (.inr (fun j => (l.getD j none).map (ad g)))))))) H ∧ 0 < a := by
  have h0 := hM.pos ha (by intro e; cases e)
  exact ⟨ad_pos h0, hM.2.2.2 a _ h0 ha, h0⟩
/-- a field that the method of class own reads under index idx, of objects with tag t: their field k -/
def FG (own : String) (idx t k : Nat) : Prop := ∃ (C : String) (T : u_T) (N : Nat), classes[t]? = some (C, T, N) ∧ k < N ∧ (∀ w ∈ u_ws C T N, w ∈ gtbl) ∧
  (Cond.fieldLink own idx (T k).1 (T k).2.1 (T k).2.2.1 ∈ gtbl ∨ ∃ host, Cond.fieldLinkNest own idx (T k).1 (T k).2.1 (T k).2.2.1 host ∈ nwt)
/-- a field that it writes -/
def FP (own : String) (idx t k : Nat) (ty : FieldType) : Prop := ∃ (C : String) (T : u_T) (N : Nat) (ty0 : Nat → FieldType), classes[t]? = some (C, T, N) ∧ k < N ∧ (∀ w ∈ u_ws C T N, w ∈ gtbl) ∧ (∀ k, k < N → parseFieldDescriptor (T k).2.2.1 = some (ty0 k)) ∧ (∀ a, a < N → ∀ b, b < N → a ≠ b → (T a).2.1 ≠ (T b).2.1) ∧ ty0 k = ty ∧ (T k).2.2.2 = false ∧
  (Cond.fieldLink own idx (T k).1 (T k).2.1 (T k).2.2.1 ∈ gtbl ∨ ∃ host, Cond.fieldLinkNest own idx (T k).1 (T k).2.1 (T k).2.2.1 host ∈ nwt)
/-- a final field, that its constructor writes -/
def FF (own : String) (idx t k : Nat) (ty : FieldType) : Prop := ∃ (C : String) (T : u_T) (N : Nat) (ty0 : Nat → FieldType), classes[t]? = some (C, T, N) ∧ k < N ∧ (∀ w ∈ u_ws C T N, w ∈ gtbl) ∧ (∀ k, k < N → parseFieldDescriptor (T k).2.2.1 = some (ty0 k)) ∧ (∀ a, a < N → ∀ b, b < N → a ≠ b → (T a).2.1 ≠ (T b).2.1) ∧ ty0 k = ty ∧ (T k).2.2.2 = true ∧ (T k).1 = own ∧
  Cond.fieldLink own idx (T k).1 (T k).2.1 (T k).2.2.1 ∈ gtbl
/-- objects of tag t are made under index idx, of N fields that are fs at first -/
def NO (own : String) (idx t N : Nat) (fs : List Value) : Prop := ∃ (C : String) (T : u_T) (ty0 : Nat → FieldType), classes[t]? = some (C, T, N) ∧ (∀ w ∈ u_ws C T N, w ∈ gtbl) ∧ (∀ k, k < N → parseFieldDescriptor (T k).2.2.1 = some (ty0 k)) ∧ Cond.classLink own idx C ∈ gtbl ∧ Cond.instantiable C N ∈ gtbl ∧ Cond.initialized C ∈ gtbl ∧ (∀ j, j < N → defaultValue (ty0 j) = vp_V fs j) ∧ ∀ g : Gh, fs.map (tr g) = fs
section VH
variable {g : Gh} {y : MethodName} {cc : ByteArray} {mL : Nat} {rt : Option FieldType} {R : Room} {Z : Zt} {ce sl : Nat} {h : MH} {pc : Nat} {ls : List (Option Value)} {st : List Value} {α : Type} {o : α}
theorem v_get {idx k a : Nat} {S : List Nat} {v : Value} (hS : ∀ t ∈ S, FG y.cls idx t k) (d : decode cc pc = .ok (.getfield idx, 3)) (hv : gf h a S k = some v) (kk : V g y cc mL rt R Z ce sl h (pc + 3) ls (v :: st)) : V g y cc mL rt R Z ce sl h pc ls (.ref a :: st) := by
  intro p e s m args below meth c C H locs la hM hF hL
  obtain ⟨t, fs, ha, ht, hk⟩ := gf_of hv
  obtain ⟨C0, T, N, hc, hkN, hin, hl⟩ := hS t ht
  obtain ⟨e1, hat, -⟩ := hM.obj ha hc
  obtain ⟨hx, hb, hml, hr, hlk, hnm, hown, hts, hK, hX⟩ := id C
  have k2 := kk p e s m args below meth c C H locs la hM hF hL
  show W p g.1 e R s m args below meth c H locs ce sl (Z below args s) (F0 m pc la (.ref (ad g a) :: st.map (tr g)))
  rw [e1]
  rcases hl with hl | ⟨host, hl⟩
  · exact va_get (D := gD g) (ci := t) hx hb hts hin hown hK.1 (va_P1 hat) 0 rfl hc k hkN (hts _ hl) (fun _ h9 => h9) (by rw [List.getElem?_map, hk]; rfl) d k2
  · exact va_getN (D := gD g) (ci := t) hx hb hts hin hown hK.1 (va_P1 hat) 0 rfl hc k hkN (va_Nw.use rfl (hK.2.1 _ hl)) (fun _ h9 => h9) (by rw [List.getElem?_map, hk]; rfl) d k2
theorem v_getI {idx k a : Nat} {S : List Nat} {F : Int32 → Option α} (hS : ∀ t ∈ S, FG y.cls idx t k) (d : decode cc pc = .ok (.getfield idx, 3)) (hf : (gfI h a S k).bind F = some o) (kk : ∀ v, F v = some o → V g y cc mL rt R Z ce sl h (pc + 3) ls (.int v :: st)) : V g y cc mL rt R Z ce sl h pc ls (.ref a :: st) := by
  obtain ⟨v, e, hf⟩ := bnd hf
  exact v_get hS d (gfI_of e) (kk v hf)
theorem v_getL {idx k a : Nat} {S : List Nat} {F : Int64 → Option α} (hS : ∀ t ∈ S, FG y.cls idx t k) (d : decode cc pc = .ok (.getfield idx, 3)) (hf : (gfL h a S k).bind F = some o) (kk : ∀ v, F v = some o → V g y cc mL rt R Z ce sl h (pc + 3) ls (.long v :: st)) : V g y cc mL rt R Z ce sl h pc ls (.ref a :: st) := by
  obtain ⟨v, e, hf⟩ := bnd hf
  exact v_get hS d (gfL_of e) (kk v hf)
theorem v_getR {idx k a : Nat} {S : List Nat} {F : Nat → Option α} (hS : ∀ t ∈ S, FG y.cls idx t k) (d : decode cc pc = .ok (.getfield idx, 3)) (hf : (gfR h a S k).bind F = some o) (kk : ∀ v, F v = some o → V g y cc mL rt R Z ce sl h (pc + 3) ls (.ref v :: st)) : V g y cc mL rt R Z ce sl h pc ls (.ref a :: st) := by
  obtain ⟨v, e, hf⟩ := bnd hf
  exact v_get hS d (gfR_of e) (kk v hf)
/-- the cell of an object, a field of it written -/
theorem put_at {g : Gh} {s : State} {args : Array Value} {H H1 : Heap} {h : MH} {own C0 : String} {a t k N : Nat} {T : u_T} {ty0 : Nat → FieldType} {fs : List Value} {v : Value} {cell : Cell} (hM : MR g H h) (ha0 : 0 < a) (hts : ∀ w ∈ gtbl, w.before args s = true) (hin : ∀ w ∈ u_ws C0 T N, w ∈ gtbl) (hty : ∀ k, k < N → parseFieldDescriptor (T k).2.2.1 = some (ty0 k)) (hnm : ∀ a, a < N → ∀ b, b < N → a ≠ b → (T a).2.1 ≠ (T b).2.1) (hK : KK g s) (hc : classes[t]? = some (C0, T, N)) (hk : k < N) (hl : k < fs.length)
    (q2 : cell.cls = (gD g).1 t) (q3 : cell.vm = .none) (q4 : ∀ k, k < N → cell.slots[(gD g).2 t k]? = some (vp_V (fs.map (tr g)) k)) (e1 : H1[gB g + a]? = some (cell.setSlot ((gD g).2 t k) (tr g v))) (e2 : H1.size = H.size) (e3 : ∀ q, q ≠ gB g + a → H1[q]? = H[q]?) : MR g H1 (h.set a (cO t (fs.set k v))) := by
  have hap := va_apart (own := own) hts hin ty0 hty hnm hK.1 hc
  refine hM.set ha0 e2 e3 ?_
  show va_at (gD g) classes (gB g + a, .inr (t, (fs.set k v).map (tr g))) H1
  refine ⟨_, hc, t_OB.to (V := updV (vp_V (fs.map (tr g))) k (tr g v)) ⟨_, e1, q2, q3, t_set q4 hap hk (tr g v)⟩ (fun j _ => ?_)⟩
  rw [List.map_set]
  exact vp_updV_set (by rw [List.length_map]; exact hl) (tr g v) j
theorem v_put {idx k a : Nat} {S : List Nat} {ty : FieldType} {v : Value} {F : MH → Option α} (hS : ∀ t ∈ S, FP y.cls idx t k ty) (hn : ∀ g : Gh, narrow ty (tr g v) = tr g v ∧ fits ty (tr g v) = true) (d : decode cc pc = .ok (.putfield idx, 3)) (hf : (pf h a S k v).bind F = some o) (kk : ∀ h1, F h1 = some o → V g y cc mL rt R Z ce sl h1 (pc + 3) ls st) : V g y cc mL rt R Z ce sl h pc ls (v :: .ref a :: st) := by
  obtain ⟨h1, e0, hf⟩ := bnd hf
  have k1 := kk h1 hf
  intro p e s m args below meth c C H locs la hM hF hL
  obtain ⟨t, fs, ha, ht, hl, rfl⟩ := pf_of e0
  obtain ⟨C0, T, N, ty0, hc, hkN, hin, hty, hnm, hte, hfin, hlk⟩ := hS t ht
  obtain ⟨e1, hat, ha0⟩ := hM.obj ha hc
  obtain ⟨hx, hb, hml, hr, hlc, hnme, hown, hts, hK, hX⟩ := id C
  show W p g.1 e R s m args below meth c H locs ce sl (Z below args s) (F0 m pc la (tr g v :: .ref (ad g a) :: st.map (tr g)))
  rw [e1]
  obtain ⟨r, h2, cell, q1, q2, q3, q4⟩ := hat
  have hr : r = (C0, T, N) := Option.some.inj (h2.symm.trans hc)
  subst hr
  obtain ⟨hSl, hfc, kC, hkC, hkind⟩ := hK.1.1 t _ hc
  obtain ⟨cf, kf, fi, f, hi, hsl⟩ := hSl k hkN
  have hlay := hts _ (hin _ (u_in_lay hkN))
  unfold u_lay at hlay
  rw [if_neg (by rw [hfin]; decide)] at hlay
  have hst := (u_facts hfc hkC (u_lays hts hin hkN) hi).1
  have h6 := u_store hfc hkC hkind hlay hi ((hty k hkN).trans (congrArg some hte)) (hn g).1 (hn g).2
  have go : ∀ H1 : Heap, H1[gB g + a]? = some (cell.setSlot f.slot (tr g v)) → H1.size = H.size → (∀ q, q ≠ gB g + a → H1[q]? = H[q]?) → W p g.1 e R s m args below meth c H1 (locs ++ [⟨gB g + a, f.slot⟩]) ce sl (Z below args s) (F0 m (pc + 3) la (st.map (tr g))) := by
    intro H1 f1 f2 f3
    rw [hsl] at f1
    refine k1 p e s m args below meth c C H1 _ la (put_at (own := y.cls) hM ha0 hts hin hty hnm hK hc hkN hl q2 q3 q4 f1 f2 f3) ⟨fun q hq => by rw [f3 q (by omega)]; exact hF.1 q hq, fun l hl => ?_⟩ hL
    rcases List.mem_append.mp hl with hl | hl
    · exact hF.2 l hl
    · rw [List.mem_singleton.mp hl]
      show gB g < gB g + a
      omega
  rcases hlk with hlk | ⟨host, hlk⟩
  · exact W.putK hx hb (f := f) ⟨hown, hts _ hlk, ⟨_, _, _, hi⟩, hst⟩ (by rw [q2]; exact h6) q1 q3 (by rw [hsl]; exact k2_hasslot (q4 k hkN)) rfl rfl d go
  · exact va_WputK hx hb (f := f) hown (va_Nw.use rfl (hK.2.1 _ hlk)) hi hst (by rw [q2]; exact h6) q1 q3 (by rw [hsl]; exact k2_hasslot (q4 k hkN)) rfl rfl d go
theorem v_putF {idx k a : Nat} {S : List Nat} {ty : FieldType} {v : Value} {F : MH → Option α} (hS : ∀ t ∈ S, FF y.cls idx t k ty) (hi0 : y.name = "<init>") (hn : ∀ g : Gh, narrow ty (tr g v) = tr g v ∧ fits ty (tr g v) = true) (d : decode cc pc = .ok (.putfield idx, 3)) (hf : (pf h a S k v).bind F = some o) (kk : ∀ h1, F h1 = some o → V g y cc mL rt R Z ce sl h1 (pc + 3) ls st) : V g y cc mL rt R Z ce sl h pc ls (v :: .ref a :: st) := by
  obtain ⟨h1, e0, hf⟩ := bnd hf
  have k1 := kk h1 hf
  intro p e s m args below meth c C H locs la hM hF hL
  obtain ⟨t, fs, ha, ht, hl, rfl⟩ := pf_of e0
  obtain ⟨C0, T, N, ty0, hc, hkN, hin, hty, hnm, hte, hfin, hdecl, hlk⟩ := hS t ht
  obtain ⟨e1, hat, ha0⟩ := hM.obj ha hc
  obtain ⟨hx, hb, hml, hr, hlc, hnme, hown, hts, hK, hX⟩ := id C
  show W p g.1 e R s m args below meth c H locs ce sl (Z below args s) (F0 m pc la (tr g v :: .ref (ad g a) :: st.map (tr g)))
  rw [e1]
  obtain ⟨r, h2, cell, q1, q2, q3, q4⟩ := hat
  have hr : r = (C0, T, N) := Option.some.inj (h2.symm.trans hc)
  subst hr
  obtain ⟨hSl, hfc, kC, hkC, hkind⟩ := hK.1.1 t _ hc
  obtain ⟨cf, kf, fi, f, hi, hsl⟩ := hSl k hkN
  have hlay := hts _ (hin _ (u_in_lay hkN))
  unfold u_lay at hlay
  rw [if_pos hfin] at hlay
  have hst := (u_facts hfc hkC (u_lays hts hin hkN) hi).1
  have hcf : m.cls = cf := by
    obtain ⟨_, _, c', _, _, _, -, -, hf', -, -, -, hown2, -⟩ := Cond.laysFinal_spec hlay
    have e1 : c' = cf := by have := hi.symm.trans hf'; simp at this; exact this.1.symm
    rw [hdecl] at hown2
    rw [← e1]; exact Option.some.inj (hown.symm.trans hown2)
  have h6 := u_fits hfc hkC hkind (Or.inr hlay) hi ((hty k hkN).trans (congrArg some hte)) (hn g).1 (hn g).2
  have go : ∀ H1 : Heap, H1[gB g + a]? = some (cell.setSlot f.slot (tr g v)) → H1.size = H.size → (∀ q, q ≠ gB g + a → H1[q]? = H[q]?) → W p g.1 e R s m args below meth c H1 (locs ++ [⟨gB g + a, f.slot⟩]) ce sl (Z below args s) (F0 m (pc + 3) la (st.map (tr g))) := by
    intro H1 f1 f2 f3
    rw [hsl] at f1
    refine k1 p e s m args below meth c C H1 _ la (put_at (own := y.cls) hM ha0 hts hin hty hnm hK hc hkN hl q2 q3 q4 f1 f2 f3) ⟨fun q hq => by rw [f3 q (by omega)]; exact hF.1 q hq, fun l hl => ?_⟩ hL
    rcases List.mem_append.mp hl with hl | hl
    · exact hF.2 l hl
    · rw [List.mem_singleton.mp hl]
      show gB g < gB g + a
      omega
  exact W.putFinK hx hb hown (hts _ hlk) hi hst hcf (hnme.trans hi0) (by rw [q2]; exact h6) q1 q3 (by rw [hsl]; exact k2_hasslot (q4 k hkN)) rfl rfl d go
theorem v_new {idx t N : Nat} {fs : List Value} {F : MH → Nat → Option α} (hN : NO y.cls idx t N fs) (d : decode cc pc = .ok (.new idx, 3)) (hce : ce + 1 ≤ R.cells) (hsl : sl + N ≤ R.slots) (hf : alc h (cO t fs) F = some o) (kk : ∀ h1 a, F h1 a = some o → V g y cc mL rt R Z (ce + 1) (sl + N) h1 (pc + 3) ls (.ref a :: st)) : V g y cc mL rt R Z ce sl h pc ls st := by
  have k1 := kk _ _ hf
  intro p e s m args below meth c C H locs la hM hF hL
  obtain ⟨C0, T, ty0, hc, hin, hty, hw1, hw2, hw3, hdf, hfx⟩ := hN
  obtain ⟨hx, hb, hml, hr, hlc, hnme, hown, hts, hK, hX⟩ := id C
  have hKn := hK.1.1 t _ hc
  refine W.newcK hx hb hown (hts _ hw1) (hts _ hw2) (hts _ hw3) rfl d hce hsl hKn.2.1 hM.1 fun H1 kC hkC e1 z1 o1 => ?_
  rw [← hM.1] at e1 z1 o1
  have hl : 0 < h.length := by
    rcases Nat.eq_zero_or_pos h.length with e | e
    · have := hM.2.1
      rw [List.eq_nil_of_length_eq_zero e] at this
      cases this
    · exact e
  have k2 := k1 p e s m args below meth c C H1 locs la (hM.push z1 o1 (by
    show va_at (gD g) classes (gB g + h.length, .inr (t, fs.map (tr g))) H1
    rw [hfx g, ← hM.1]
    exact ⟨_, hc, (u_born ty0 hts hin hKn hkC e1 hty).to hdf⟩)) ⟨fun q hq => by rw [o1 q (by rw [hM.1]; omega)]; exact hF.1 q hq, hF.2⟩ hL
  have k3 : W p g.1 e R s m args below meth c H1 locs (ce + 1) (sl + N) (Z below args s) (F0 m (pc + 3) la (.ref (ad g h.length) :: st.map (tr g))) := k2
  rw [ad_pos hl] at k3
  exact k3
end VH

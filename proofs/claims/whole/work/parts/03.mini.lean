/-! a small heap beside the machine's own: cells of ints, of longs, of references, objects; address 0 stands for the script -/
abbrev MC : Type := List Int32 ⊕ (List Int64 ⊕ ((Nat × List (Option Nat)) ⊕ (Nat × List Value)))
abbrev MH : Type := List MC
abbrev cI (l : List Int32) : MC := Sum.inl l
abbrev cL (l : List Int64) : MC := Sum.inr (Sum.inl l)
abbrev cR (t : Nat) (l : List (Option Nat)) : MC := Sum.inr (Sum.inr (Sum.inl (t, l)))
abbrev cO (t : Nat) (fs : List Value) : MC := Sum.inr (Sum.inr (Sum.inr (t, fs)))
/-- launch; class ids and slots; ids of array classes; the script's address, its ints; the address below the first of the new cells -/
abbrev Gh : Type := Launch × va_G × (Nat → ClassId) × (Nat × List Int32) × Nat
abbrev gB (g : Gh) : Nat := g.2.2.2.2
abbrev gb (g : Gh) : Nat := g.2.2.2.1.1
abbrev gX (g : Gh) : List Int32 := g.2.2.2.1.2
abbrev gA (g : Gh) : Nat → ClassId := g.2.2.1
abbrev gD (g : Gh) : va_G := g.2.1
def ad (g : Gh) (a : Nat) : Nat := if a = 0 then gb g else gB g + a
theorem ad_pos {g : Gh} {a : Nat} (h : 0 < a) : ad g a = gB g + a := if_neg (by omega)
def tr (g : Gh) (v : Value) : Value := match v with
  | .ref a => .ref (ad g a)
  | .int x => .int x
  | .long x => .long x
  | .float x => .float x
  | .double x => .double x
  | .null => .null
  | .retAddr x => .retAddr x
theorem tr_cat (g : Gh) (v : Value) : (tr g v).category = v.category := by cases v <;> rfl
def aty : Nat → FieldType
  | 0 => .int
  | 1 => .long
  | 2 => .array .int
  | 3 => .object "TreeSteps$Sheet"
  | _ => .object "TreeSteps$Table"
def tE (g : Gh) (c : MC) : va_E := match c with
  | Sum.inl l => .inl (gA g 0, (l.length, .inl (fun j => l.getD j 0)))
  | Sum.inr (Sum.inl l) => .inl (gA g 1, (l.length, .inr (.inl (fun j => l.getD j 0))))
  | Sum.inr (Sum.inr (Sum.inl q)) => .inl (gA g q.1, (q.2.length, .inr (.inr (.inr (.inr (fun j => (q.2.getD j none).map (ad g)))))))
  | Sum.inr (Sum.inr (Sum.inr q)) => .inr (q.1, q.2.map (tr g))
def MR (g : Gh) (H : Heap) (h : MH) : Prop :=
  H.size = gB g + h.length ∧ h[0]? = some (cO 99 []) ∧ gb g ≤ gB g ∧ ∀ (a : Nat) (c : MC), 0 < a → h[a]? = some c → va_at (gD g) classes (gB g + a, tE g c) H
theorem MR.set {g : Gh} {H H1 : Heap} {h : MH} {a : Nat} {c : MC} (hM : MR g H h) (ha : 0 < a) (hz : H1.size = H.size) (ho : ∀ q, q ≠ gB g + a → H1[q]? = H[q]?) (hc : va_at (gD g) classes (gB g + a, tE g c) H1) : MR g H1 (h.set a c) := by
  obtain ⟨h1, h2, h3, h4⟩ := hM
  refine ⟨by rw [hz, h1, List.length_set], by rw [List.getElem?_set_ne (by omega)]; exact h2, h3, fun b d hb hd => ?_⟩
  by_cases e : b = a
  · subst e
    rw [List.getElem?_set] at hd
    simp only [if_true] at hd
    split at hd
    · cases hd
      exact hc
    · cases hd
  · rw [List.getElem?_set_ne (Ne.symm e)] at hd
    exact (h4 b d hb hd).kept (ho _ (by simp; omega))
theorem MR.push {g : Gh} {H H1 : Heap} {h : MH} {c : MC} (hM : MR g H h) (hz : H1.size = H.size + 1) (ho : ∀ q, q < H.size → H1[q]? = H[q]?) (hc : va_at (gD g) classes (gB g + h.length, tE g c) H1) : MR g H1 (h ++ [c]) := by
  obtain ⟨h1, h2, h3, h4⟩ := hM
  have hl : 0 < h.length := by
    rcases Nat.eq_zero_or_pos h.length with e | e
    · rw [List.eq_nil_of_length_eq_zero e] at h2
      cases h2
    · exact e
  refine ⟨by rw [hz, h1, List.length_append]; rfl, by rw [List.getElem?_append_left hl]; exact h2, h3, fun b d hb hd => ?_⟩
  by_cases e : b < h.length
  · rw [List.getElem?_append_left e] at hd
    exact (h4 b d hb hd).kept (ho _ (by simp; omega))
  · rw [List.getElem?_append_right (by omega)] at hd
    have e2 : b - h.length < 1 := (List.getElem?_eq_some_iff.mp hd).1
    have e3 : b = h.length := by omega
    subst e3
    rw [Nat.sub_self] at hd
    cases hd
    exact hc
theorem MR.pos {g : Gh} {H : Heap} {h : MH} {a : Nat} {c : MC} (hM : MR g H h) (ha : h[a]? = some c) (hc : c ≠ cO 99 []) : 0 < a := by
  rcases Nat.eq_zero_or_pos a with e | e
  · subst e
    exact absurd (Option.some.inj (ha.symm.trans hM.2.1)) hc
  · exact e
/-- words that don't move by themselves: of nest mates, of casts -/
def isNw : Cond → Bool
  | .fieldLinkNest .. => true
  | .methodLinkNest .. => true
  | .castable .. => true
  | _ => false
def nwt : List Cond := lw_tbl.filter isNw
theorem nw {w : Cond} (i : Nat) (h : lw_tbl[i]? = some w) (hg : isNw w = true) : w ∈ nwt := List.mem_filter.mpr ⟨List.mem_of_getElem? h, hg⟩
def ncs : List (String × String) := [("TreeSteps$Table", "TreeSteps$Lower"), ("TreeSteps$Table", "TreeSteps$Plain"), ("TreeSteps$Table", "TreeSteps$Keeping"), ("TreeSteps$Lower", "TreeSteps$Plain"), ("TreeSteps$Lower", "TreeSteps$Keeping"), ("TreeSteps$Plain", "TreeSteps$Keeping"), ("TreeSteps$Keeping", "TreeSteps$Lower"), ("TreeSteps$Keeping", "TreeSteps$Plain")]
abbrev tysL (g : Gh) : List (ClassId × FieldType) := [(gA g 0, .int), (gA g 1, .long), (gA g 2, .array .int), (gA g 3, .object "TreeSteps$Sheet"), (gA g 4, .object "TreeSteps$Table")]
def va_AOA (t : FieldType) (U : State) : Prop := (Cond.arrayOver (.array t)).before #[] U = true
theorem va_AOA.moved {t : FieldType} {u U : State} (hvm : u.vm.Alike U.vm) (h : va_AOA t u) : va_AOA t U := by
  obtain ⟨comp, c, k, h1, h2, h3, h4, h5⟩ := arrayOverA_spec h
  obtain ⟨k', hk', he⟩ := hvm.2.2 _ _ h3
  have hi : (U.vm.classes.findIdx? fun (x : Class) => match x.kind with | .array component _ => component == comp | _ => false) = some c := by
    have e1 := va_idx_bare U.vm comp
    have e2 := va_idx_bare u.vm comp
    first | rw [hvm.bare_eq] at e2 | rw [← hvm.bare_eq] at e2
    exact (e1.symm.trans e2).trans h2
  have hkind : k'.kind = .array comp (.array t) := by rw [he]; exact h4
  have f1 : U.vm.findClass (FieldType.array t).toString = some comp := by rw [hvm.findClass]; exact h1
  have f2 : U.vm.findClass ("[" ++ (FieldType.array t).toString) = some c := by rw [hvm.findClass]; exact h5
  unfold va_AOA Cond.before Cond.holds
  simp only [Cond.value]
  rw [f1, Option.bind_some]
  refine (congrArg (fun o : Option Nat => (o.bind (fun c => (U.vm.classes[c]?).map fun (k : Class) => match k.kind with | .array _ ty => decide (ty = FieldType.array t) && decide (U.vm.findClass ("[" ++ (FieldType.array t).toString) = some c) | _ => false) == some true)) hi).trans ?_
  simp [hk', hkind, f2]
def KK (g : Gh) (U : State) : Prop := va_K (gD g) classes (tysL g) U ∧ (∀ w ∈ nwt, va_Nw w U) ∧ va_AO "TreeSteps$Sheet" U ∧ va_AO "TreeSteps$Table" U ∧ va_AOA .int U ∧ ∀ q ∈ ncs, va_Nc q.1 q.2 U
theorem KK.moved {g : Gh} {s U : State} (hW : s.WarmedH U.vm) (h : KK g s) : KK g U := by
  obtain ⟨h1, h2, h3, h4, h5, h6⟩ := h
  refine ⟨h1.moved hW.alike, fun w hw => ?_, h3.moved hW.alike, h4.moved hW.alike, h5.moved hW.alike, fun q hq => (h6 q hq).moved hW.alike⟩
  have hg := (List.mem_filter.mp hw).2
  have hb := h2 w hw
  cases w <;> first | exact va_Nw.warmF hW hb | exact va_Nw.warmM hW hb | exact va_Nw.warmC hW hb | cases hg
theorem KK.same {g : Gh} {u U : State} (hvm : u.vm = U.vm) (h : KK g u) : KK g U := by
  obtain ⟨h1, h2, h3, h4, h5, h6⟩ := h
  have ha : u.vm.Alike U.vm := by rw [hvm]; exact Vm.Alike.refl _
  refine ⟨h1.moved ha, fun w hw => ?_, h3.moved ha, h4.moved ha, h5.moved ha, fun q hq => (h6 q hq).moved ha⟩
  have hg := (List.mem_filter.mp hw).2
  have hb := h2 w hw
  cases w <;> first | exact va_Nw.same rfl hvm hb | cases hg
/-! locals by their places -/
def prs : Nat → List (Option Value) → List (Nat × Value)
  | _, [] => []
  | i, none :: l => prs (i + 1) l
  | i, some v :: l => (i, v) :: prs (i + 1) l
theorem prs_mem : ∀ (l : List (Option Value)) (k i : Nat) (v : Value), (i, v) ∈ prs k l ↔ k ≤ i ∧ l[i - k]? = some (some v)
  | [], k, i, v => by simp [prs]
  | none :: l, k, i, v => by
    rw [show prs k (none :: l) = prs (k + 1) l from rfl, prs_mem l (k + 1) i v]
    constructor
    · rintro ⟨h1, h2⟩
      refine ⟨by omega, ?_⟩
      rw [show i - k = (i - (k + 1)) + 1 by omega, List.getElem?_cons_succ]
      exact h2
    · rintro ⟨h1, h2⟩
      by_cases e : i = k
      · subst e
        rw [Nat.sub_self, List.getElem?_cons_zero] at h2
        cases h2
      · rw [show i - k = (i - (k + 1)) + 1 by omega, List.getElem?_cons_succ] at h2
        exact ⟨by omega, h2⟩
  | some w :: l, k, i, v => by
    rw [show prs k (some w :: l) = (k, w) :: prs (k + 1) l from rfl, List.mem_cons, prs_mem l (k + 1) i v]
    constructor
    · rintro (h | ⟨h1, h2⟩)
      · cases h
        exact ⟨Nat.le_refl _, by rw [Nat.sub_self]; rfl⟩
      · refine ⟨by omega, ?_⟩
        rw [show i - k = (i - (k + 1)) + 1 by omega, List.getElem?_cons_succ]
        exact h2
    · rintro ⟨h1, h2⟩
      by_cases e : i = k
      · subst e
        rw [Nat.sub_self, List.getElem?_cons_zero] at h2
        cases h2
        exact Or.inl rfl
      · rw [show i - k = (i - (k + 1)) + 1 by omega, List.getElem?_cons_succ] at h2
        exact Or.inr ⟨by omega, h2⟩
abbrev prT (g : Gh) (ls : List (Option Value)) : List (Nat × Value) := (prs 0 ls).map fun q => (q.1, tr g q.2)
def LV (g : Gh) (la : Array Slot) (mL : Nat) (ls : List (Option Value)) : Prop := lv_has la mL (prT g ls)
theorem LV.at {g : Gh} {la : Array Slot} {mL : Nat} {ls : List (Option Value)} (h : LV g la mL ls) {i : Nat} {v : Value} (hi : ls[i]? = some (some v)) : la[i]? = some (.val (tr g v)) := by
  have h1 : (i, v) ∈ prs 0 ls := (prs_mem ls 0 i v).mpr ⟨Nat.zero_le _, by rw [Nat.sub_zero]; exact hi⟩
  exact h.2.2 (i, tr g v) (List.mem_map.mpr ⟨_, h1, rfl⟩)
def kl1 (ls : List (Option Value)) (i : Nat) : List (Option Value) := match i with
  | 0 => ls
  | j + 1 => match ls[j]? with
    | some (some w) => if w.category = 2 then ls.set j none else ls
    | _ => ls
def stL (ls : List (Option Value)) (i : Nat) (v : Value) : List (Option Value) := (kl1 ls i).set i (some v)
def stL2 (ls : List (Option Value)) (i : Nat) (v : Value) : List (Option Value) := ((kl1 ls i).set (i + 1) none).set i (some v)
theorem kl1_get {ls : List (Option Value)} {i j : Nat} {w : Value} (h : (kl1 ls i)[j]? = some (some w)) : ls[j]? = some (some w) ∧ ¬ (j + 1 = i ∧ w.category = 2) := by
  cases i with
  | zero => exact ⟨h, by omega⟩
  | succ i =>
    unfold kl1 at h
    simp only at h
    split at h
    · rename_i u hu
      split at h
      · by_cases e : j = i
        · subst e
          rw [List.getElem?_set] at h
          simp only [if_true] at h
          split at h <;> simp at h
        · rw [List.getElem?_set_ne (Ne.symm e)] at h
          exact ⟨h, by omega⟩
      · rename_i hc
        refine ⟨h, fun q => ?_⟩
        obtain ⟨q1, q2⟩ := q
        have e : j = i := by omega
        subst e
        rw [h] at hu
        cases hu
        exact hc q2
    · rename_i hn
      refine ⟨h, fun q => ?_⟩
      obtain ⟨q1, q2⟩ := q
      have e : j = i := by omega
      subst e
      exact hn w h
theorem LV.st1 {g : Gh} {la : Array Slot} {mL i : Nat} {ls : List (Option Value)} {v : Value} (h : lv_has la mL ((i, tr g v) :: (prT g ls).filter (fun q => !(q.1 == i) && !(q.1 + 1 == i && q.2.category == 2)))) : LV g la mL (stL ls i v) := by
  refine ⟨h.1, h.2.1, fun q hq => ?_⟩
  obtain ⟨⟨j, w⟩, hm, rfl⟩ := List.mem_map.mp hq
  have hm := ((prs_mem _ 0 j w).mp hm).2
  rw [Nat.sub_zero] at hm
  unfold stL at hm
  by_cases e : j = i
  · subst e
    rw [List.getElem?_set] at hm
    simp only [if_true] at hm
    split at hm
    · cases hm
      exact h.2.2 _ List.mem_cons_self
    · cases hm
  · rw [List.getElem?_set_ne (Ne.symm e)] at hm
    obtain ⟨h1, h2⟩ := kl1_get hm
    refine h.2.2 _ (List.mem_cons_of_mem _ (List.mem_filter.mpr ⟨List.mem_map.mpr ⟨(j, w), (prs_mem ls 0 j w).mpr ⟨Nat.zero_le _, by rw [Nat.sub_zero]; exact h1⟩, rfl⟩, ?_⟩))
    simp only [tr_cat, Bool.and_eq_true, Bool.not_eq_true', beq_eq_false_iff_ne, ne_eq, Bool.and_eq_false_iff]
    exact ⟨e, by
      by_cases e1 : j + 1 = i
      · exact Or.inr (fun q => h2 ⟨e1, q⟩)
      · exact Or.inl e1⟩
theorem LV.st2 {g : Gh} {la : Array Slot} {mL i : Nat} {ls : List (Option Value)} {v : Value} (h : lv_has la mL ((i, tr g v) :: (prT g ls).filter (fun q => !(q.1 == i) && (!(q.1 == i + 1) && !(q.1 + 1 == i && q.2.category == 2))))) : LV g la mL (stL2 ls i v) := by
  refine ⟨h.1, h.2.1, fun q hq => ?_⟩
  obtain ⟨⟨j, w⟩, hm, rfl⟩ := List.mem_map.mp hq
  have hm := ((prs_mem _ 0 j w).mp hm).2
  rw [Nat.sub_zero] at hm
  unfold stL2 at hm
  by_cases e : j = i
  · subst e
    rw [List.getElem?_set] at hm
    simp only [if_true] at hm
    split at hm
    · cases hm
      exact h.2.2 _ List.mem_cons_self
    · cases hm
  · rw [List.getElem?_set_ne (Ne.symm e)] at hm
    by_cases e2 : j = i + 1
    · subst e2
      rw [List.getElem?_set] at hm
      simp only [if_true] at hm
      split at hm <;> simp at hm
    · rw [List.getElem?_set_ne (Ne.symm e2)] at hm
      obtain ⟨h1, h2⟩ := kl1_get hm
      refine h.2.2 _ (List.mem_cons_of_mem _ (List.mem_filter.mpr ⟨List.mem_map.mpr ⟨(j, w), (prs_mem ls 0 j w).mpr ⟨Nat.zero_le _, by rw [Nat.sub_zero]; exact h1⟩, rfl⟩, ?_⟩))
      simp only [tr_cat, Bool.and_eq_true, Bool.not_eq_true', beq_eq_false_iff_ne, ne_eq, Bool.and_eq_false_iff]
      exact ⟨e, e2, by
        by_cases e1 : j + 1 = i
        · exact Or.inr (fun q => h2 ⟨e1, q⟩)
        · exact Or.inl e1⟩
/-- fewer known locals -/
def wk : List (Option Value) → List (Option Value) → Prop
  | [], _ => True
  | none :: l, _ :: m => wk l m
  | none :: l, [] => wk l []
  | some v :: l, some w :: m => v = w ∧ wk l m
  | some _ :: _, _ => False
theorem wk_get : ∀ (l m : List (Option Value)), wk l m → ∀ (i : Nat) (v : Value), l[i]? = some (some v) → m[i]? = some (some v)
  | [], _, _, i, v, h => by simp at h
  | none :: l, _ :: m, hw, i, v, h => by
    cases i with
    | zero => simp at h
    | succ i => exact wk_get l m hw i v h
  | none :: l, [], hw, i, v, h => by
    cases i with
    | zero => simp at h
    | succ i =>
      have := wk_get l [] hw i v h
      simp at this
  | some u :: l, some w :: m, hw, i, v, h => by
    obtain ⟨rfl, hw⟩ := hw
    cases i with
    | zero => exact h
    | succ i => exact wk_get l m hw i v h
  | some _ :: _, none :: _, hw, _, _, _ => hw.elim
  | some _ :: _, [], hw, _, _, _ => hw.elim
theorem LV.wk {g : Gh} {la : Array Slot} {mL : Nat} {l m : List (Option Value)} (h : LV g la mL m) (hw : wk l m) : LV g la mL l := by
  refine ⟨h.1, h.2.1, fun q hq => ?_⟩
  obtain ⟨⟨j, w⟩, hm, rfl⟩ := List.mem_map.mp hq
  have hm := ((prs_mem _ 0 j w).mp hm).2
  rw [Nat.sub_zero] at hm
  exact LV.at h (wk_get l m hw j w hm)

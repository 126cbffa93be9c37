/-! rows for arrays, the script, new arrays, instanceof -/
theorem KK.ar {g : Gh} {s : State} (hK : KK g s) : (ArrOfT s (gA g 0) .int ∧ s.vm.findClass ("[" ++ FieldType.int.toString) = some (gA g 0)) ∧ (ArrOfT s (gA g 1) .long ∧ s.vm.findClass ("[" ++ FieldType.long.toString) = some (gA g 1)) ∧ (ArrOfT s (gA g 2) (.array .int) ∧ s.vm.findClass ("[" ++ (FieldType.array .int).toString) = some (gA g 2)) := ⟨hK.1.2 0 _ rfl, hK.1.2 1 _ rfl, hK.1.2 2 _ rfl⟩
theorem KK.arO {g : Gh} {s : State} (hK : KK g s) {t : Nat} {E : String} (ht : (tysL g)[t]? = some (gA g t, .object E)) : ArrOfT s (gA g t) (.object E) ∧ ∃ (kA : Class) (comp : ClassId), s.vm.classes[gA g t]? = some kA ∧ kA.kind = .array comp (.object E) ∧ s.vm.findClass E = some comp ∧ s.vm.findClass ("[" ++ (FieldType.object E).toString) = some (gA g t) := hK.1.2 t _ ht
/-- the component's name of an array of references -/
def rE : Nat → String
  | 3 => "TreeSteps$Sheet"
  | _ => "TreeSteps$Table"
theorem upd_set {l : List Int32} {k : Nat} {v : Int32} (hk : k < l.length) : updV (fun j => Value.int (l.getD j 0)) k (.int v) = fun j => Value.int ((l.set k v).getD j 0) := by
  funext j
  by_cases e : j = k
  · subst e
    simp [updV, hk]
  · simp [updV, e, Ne.symm e]
theorem upd_setL {l : List Int64} {k : Nat} {v : Int64} (hk : k < l.length) : updV (fun j => Value.long (l.getD j 0)) k (.long v) = fun j => Value.long ((l.set k v).getD j 0) := by
  funext j
  by_cases e : j = k
  · subst e
    simp [updV, hk]
  · simp [updV, e, Ne.symm e]
theorem upd_setR {g : Gh} {l : List (Option Nat)} {k : Nat} {v : Option Nat} (hk : k < l.length) : updV (fun j => va_rf ((l.getD j none).map (ad g))) k (va_rf (v.map (ad g))) = fun j => va_rf (((l.set k v).getD j none).map (ad g)) := by
  funext j
  by_cases e : j = k
  · subst e
    simp [updV, hk]
  · simp [updV, e, Ne.symm e]
theorem MR.len {g : Gh} {H : Heap} {h : MH} (hM : MR g H h) : 0 < h.length := by
  rcases Nat.eq_zero_or_pos h.length with e | e
  · have := hM.2.1
    rw [List.eq_nil_of_length_eq_zero e] at this
    cases this
  · exact e
theorem Fr.put {g : Gh} {s : State} {H H1 : Heap} {locs : List Loc} {a k : Nat} (hF : Fr g s H locs) (ha : 0 < a) (f3 : ∀ q, q ≠ gB g + a → H1[q]? = H[q]?) : Fr g s H1 (locs ++ [⟨gB g + a, k⟩]) := by
  refine ⟨fun q hq => by rw [f3 q (by omega)]; exact hF.1 q hq, fun l hl => ?_⟩
  rcases List.mem_append.mp hl with hl | hl
  · exact hF.2 l hl
  · rw [List.mem_singleton.mp hl]
    show gB g < gB g + a
    omega
section VA6
variable {g : Gh} {y : MethodName} {cc : ByteArray} {mL : Nat} {rt : Option FieldType} {R : Room} {Z : Zt} {ce sl : Nat} {h : MH} {pc : Nat} {ls : List (Option Value)} {st : List Value} {α : Type} {o : α}
theorem v_iald {a : Nat} {i : Int32} {F : Int32 → Option α} (d : decode cc pc = .ok (.iaload, 1)) (hf : (rdI h a i).bind F = some o) (kk : ∀ v, F v = some o → V g y cc mL rt R Z ce sl h (pc + 1) ls (.int v :: st)) : V g y cc mL rt R Z ce sl h pc ls (.int i :: .ref a :: st) := by
  obtain ⟨v, e0, hf⟩ := bnd hf
  have k1 := kk v hf
  obtain ⟨l, hl, hin, hv⟩ := rdI_of e0
  intro p e s m args below meth c C H locs la hM hF hL
  obtain ⟨e1, hat, -⟩ := hM.ints hl
  obtain ⟨hx, hb, hml, hr, hlc, hnme, hown, hts, hK, hX⟩ := id C
  have k2 := k1 p e s m args below meth c C H locs la hM hF hL
  show W p g.1 e R s m args below meth c H locs ce sl (Z below args s) (F0 m pc la (.int i :: .ref (ad g a) :: st.map (tr g)))
  rw [e1]
  refine va_iald (D := gD g) hx hb hK.1 (va_P1 hat) 0 0 rfl rfl hin d ?_
  show W p g.1 e R s m args below meth c H locs ce sl (Z below args s) (F0 m (pc + 1) la (.int (l.getD i.toNatClampNeg 0) :: st.map (tr g)))
  rw [hv]
  exact k2
theorem v_lald {a : Nat} {i : Int32} {F : Int64 → Option α} (d : decode cc pc = .ok (.laload, 1)) (hf : (rdL h a i).bind F = some o) (kk : ∀ v, F v = some o → V g y cc mL rt R Z ce sl h (pc + 1) ls (.long v :: st)) : V g y cc mL rt R Z ce sl h pc ls (.int i :: .ref a :: st) := by
  obtain ⟨v, e0, hf⟩ := bnd hf
  have k1 := kk v hf
  obtain ⟨l, hl, hin, hv⟩ := rdL_of e0
  intro p e s m args below meth c C H locs la hM hF hL
  obtain ⟨e1, hat, -⟩ := hM.longs hl
  obtain ⟨hx, hb, hml, hr, hlc, hnme, hown, hts, hK, hX⟩ := id C
  have k2 := k1 p e s m args below meth c C H locs la hM hF hL
  show W p g.1 e R s m args below meth c H locs ce sl (Z below args s) (F0 m pc la (.int i :: .ref (ad g a) :: st.map (tr g)))
  rw [e1]
  refine va_lald (D := gD g) hx hb hK.1 (va_P1 hat) 0 1 rfl rfl hin d ?_
  show W p g.1 e R s m args below meth c H locs ce sl (Z below args s) (F0 m (pc + 1) la (.long (l.getD i.toNatClampNeg 0) :: st.map (tr g)))
  rw [hv]
  exact k2
theorem v_aald {a t : Nat} {i : Int32} {A : Option α} {F : Nat → Option α} (ht : t = 2 ∨ t = 3 ∨ t = 4) (d : decode cc pc = .ok (.aaload, 1)) (hf : rdRn h a t i A F = some o) (k1 : A = some o → V g y cc mL rt R Z ce sl h (pc + 1) ls (.null :: st)) (k2 : ∀ v, F v = some o → V g y cc mL rt R Z ce sl h (pc + 1) ls (.ref v :: st)) : V g y cc mL rt R Z ce sl h pc ls (.int i :: .ref a :: st) := by
  have key : ∃ v : Option Nat, rdR h a t i = some v ∧ V g y cc mL rt R Z ce sl h (pc + 1) ls (va_rf v :: st) := by
    unfold rdRn at hf
    split at hf
    · rename_i b hb
      exact ⟨some b, hb, k2 b hf⟩
    · rename_i hb
      exact ⟨none, hb, k1 hf⟩
    · cases hf
  obtain ⟨v, e0, kk⟩ := key
  obtain ⟨l, hl, hin, hv⟩ := rdR_of e0
  intro p e s m args below meth c C H locs la hM hF hL
  obtain ⟨e1, hat, -⟩ := hM.refs hl
  obtain ⟨hx, hb, hml, hr, hlc, hnme, hown, hts, hK, hX⟩ := id C
  have k3 := kk p e s m args below meth c C H locs la hM hF hL
  show W p g.1 e R s m args below meth c H locs ce sl (Z below args s) (F0 m pc la (.int i :: .ref (ad g a) :: st.map (tr g)))
  rw [e1]
  have hA : ArrOfT s (gA g t) (aty t) ∧ (aty t).isReference = true := by
    rcases ht with rfl | rfl | rfl
    · exact ⟨hK.ar.2.2.1, rfl⟩
    · exact ⟨(hK.arO (t := 3) rfl).1, rfl⟩
    · exact ⟨(hK.arO (t := 4) rfl).1, rfl⟩
  have hlt : i.toNatClampNeg < l.length := Nat.not_le.mp fun q => hin (Or.inr q)
  refine W.aald (v := va_rf (v.map (ad g))) (ty := aty t) hx hb hat (hA.1 _ _) hA.2 (fun q => by cases q) (by show ¬ (i < 0 ∨ (arrV _ _ _).slots.size ≤ _); rw [arrV_size]; exact hin) (by show (arrV _ _ _).slots[_]? = _; rw [arrV_read _ _ hlt, ← hv]) rfl rfl d ?_
  have e2 : tr g (va_rf v) = va_rf (v.map (ad g)) := by cases v <;> rfl
  have k4 : W p g.1 e R s m args below meth c H locs ce sl (Z below args s) (F0 m (pc + 1) la (tr g (va_rf v) :: st.map (tr g))) := k3
  rw [e2] at k4
  exact k4
theorem v_iast {a : Nat} {i v : Int32} {F : MH → Option α} (d : decode cc pc = .ok (.iastore, 1)) (hf : (wrI h a i v).bind F = some o) (kk : ∀ h1, F h1 = some o → V g y cc mL rt R Z ce sl h1 (pc + 1) ls st) : V g y cc mL rt R Z ce sl h pc ls (.int v :: .int i :: .ref a :: st) := by
  obtain ⟨h1, e0, hf⟩ := bnd hf
  have k1 := kk h1 hf
  obtain ⟨l, hl, hin, rfl⟩ := wrI_of e0
  intro p e s m args below meth c C H locs la hM hF hL
  obtain ⟨e1, hat, ha0⟩ := hM.ints hl
  obtain ⟨hx, hb, hml, hr, hlc, hnme, hown, hts, hK, hX⟩ := id C
  show W p g.1 e R s m args below meth c H locs ce sl (Z below args s) (F0 m pc la (.int v :: .int i :: .ref (ad g a) :: st.map (tr g)))
  rw [e1]
  have hlt : i.toNatClampNeg < l.length := Nat.not_le.mp fun q => hin (Or.inr q)
  refine W.iast hx hb hat (hK.ar.1.1 l.length (fun j => .int (l.getD j 0))) (fun q => by cases q) (by show ¬ (i < 0 ∨ (arrV _ _ _).slots.size ≤ _); rw [arrV_size]; exact hin) rfl rfl d fun H1 f1 f2 f3 => ?_
  refine k1 p e s m args below meth c C H1 _ la (hM.set ha0 f2 f3 ?_) (hF.put ha0 f3) hL
  show H1[gB g + a]? = some (vp_cell (gA g 0) ((l.set i.toNatClampNeg v).length, .inl (fun j => (l.set i.toNatClampNeg v).getD j 0)))
  rw [f1, vp_cell_i, vp_cell_i, arrV_store, upd_set hlt, List.length_set]
theorem v_last {a : Nat} {i : Int32} {v : Int64} {F : MH → Option α} (d : decode cc pc = .ok (.lastore, 1)) (hf : (wrL h a i v).bind F = some o) (kk : ∀ h1, F h1 = some o → V g y cc mL rt R Z ce sl h1 (pc + 1) ls st) : V g y cc mL rt R Z ce sl h pc ls (.long v :: .int i :: .ref a :: st) := by
  obtain ⟨h1, e0, hf⟩ := bnd hf
  have k1 := kk h1 hf
  obtain ⟨l, hl, hin, rfl⟩ := wrL_of e0
  intro p e s m args below meth c C H locs la hM hF hL
  obtain ⟨e1, hat, ha0⟩ := hM.longs hl
  obtain ⟨hx, hb, hml, hr, hlc, hnme, hown, hts, hK, hX⟩ := id C
  show W p g.1 e R s m args below meth c H locs ce sl (Z below args s) (F0 m pc la (.long v :: .int i :: .ref (ad g a) :: st.map (tr g)))
  rw [e1]
  have hlt : i.toNatClampNeg < l.length := Nat.not_le.mp fun q => hin (Or.inr q)
  refine W.last hx hb hat (hK.ar.2.1.1 l.length (fun j => .long (l.getD j 0))) (fun q => by cases q) (by show ¬ (i < 0 ∨ (arrV _ _ _).slots.size ≤ _); rw [arrV_size]; exact hin) rfl rfl d fun H1 f1 f2 f3 => ?_
  refine k1 p e s m args below meth c C H1 _ la (hM.set ha0 f2 f3 ?_) (hF.put ha0 f3) hL
  show H1[gB g + a]? = some (vp_cell (gA g 1) ((l.set i.toNatClampNeg v).length, .inr (.inl (fun j => (l.set i.toNatClampNeg v).getD j 0))))
  rw [f1, vp_cell_l, vp_cell_l, arrV_store, upd_setL hlt, List.length_set]
theorem v_aastN {a t : Nat} {i : Int32} {F : MH → Option α} (ht : t = 3 ∨ t = 4) (d : decode cc pc = .ok (.aastore, 1)) (hf : (wrR h a t i none).bind F = some o) (kk : ∀ h1, F h1 = some o → V g y cc mL rt R Z ce sl h1 (pc + 1) ls st) : V g y cc mL rt R Z ce sl h pc ls (.null :: .int i :: .ref a :: st) := by
  obtain ⟨h1, e0, hf⟩ := bnd hf
  have k1 := kk h1 hf
  obtain ⟨l, hl, hin, rfl⟩ := wrR_of e0
  intro p e s m args below meth c C H locs la hM hF hL
  obtain ⟨e1, hat, ha0⟩ := hM.refs hl
  obtain ⟨hx, hb, hml, hr, hlc, hnme, hown, hts, hK, hX⟩ := id C
  show W p g.1 e R s m args below meth c H locs ce sl (Z below args s) (F0 m pc la (.null :: .int i :: .ref (ad g a) :: st.map (tr g)))
  rw [e1]
  have hlt : i.toNatClampNeg < l.length := Nat.not_le.mp fun q => hin (Or.inr q)
  have hA : ArrOfT s (gA g t) (.object (rE t)) := by
    rcases ht with rfl | rfl
    · exact (hK.arO (t := 3) rfl).1
    · exact (hK.arO (t := 4) rfl).1
  refine va_WaastN (C := rE t) hx hb hat (hA l.length (fun j => va_rf ((l.getD j none).map (ad g)))) (fun q => by cases q) (by show ¬ (i < 0 ∨ (arrV _ _ _).slots.size ≤ _); rw [arrV_size]; exact hin) rfl rfl d fun H1 f1 f2 f3 => ?_
  refine k1 p e s m args below meth c C H1 _ la (hM.set ha0 f2 f3 ?_) (hF.put ha0 f3) hL
  show H1[gB g + a]? = some (vp_cell (gA g t) ((l.set i.toNatClampNeg none).length, .inr (.inr (.inr (.inr (fun j => ((l.set i.toNatClampNeg none).getD j none).map (ad g)))))))
  have e3 := upd_setR (g := g) (v := none) hlt
  rw [f1, vp_cell_q, vp_cell_q, arrV_store, List.length_set, ← e3]
  rfl
theorem v_aast {a t v : Nat} {i : Int32} {F : MH → Option α} (d : decode cc pc = .ok (.aastore, 1)) (hf : (wrO h a t i v).bind F = some o) (kk : ∀ h1, F h1 = some o → V g y cc mL rt R Z ce sl h1 (pc + 1) ls st) : V g y cc mL rt R Z ce sl h pc ls (.ref v :: .int i :: .ref a :: st) := by
  obtain ⟨h1, e0, hf⟩ := bnd hf
  have k1 := kk h1 hf
  obtain ⟨tv, fs, hv, hok, e0⟩ := wrO_of e0
  obtain ⟨l, hl, hin, rfl⟩ := wrR_of e0
  intro p e s m args below meth c C H locs la hM hF hL
  obtain ⟨e1, hat, ha0⟩ := hM.refs hl
  obtain ⟨hx, hb, hml, hr, hlc, hnme, hown, hts, hK, hX⟩ := id C
  have hlt : i.toNatClampNeg < l.length := Nat.not_le.mp fun q => hin (Or.inr q)
  have h0 : ¬ i < 0 := fun q => hin (Or.inl q)
  have key : ∃ q : vw_C, classes[tv]? = some q ∧ (tysL g)[t]? = some (gA g t, .object (rE t)) ∧ ∀ comp c0 : ClassId, s.vm.findClass (rE t) = some comp → s.vm.findClass q.1 = some c0 → s.vm.assignable c0 comp = true := by
    have cast : ∀ (A B : String), Cond.castable A B ∈ nwt → ∀ comp c0 : ClassId, s.vm.findClass B = some comp → s.vm.findClass A = some c0 → s.vm.assignable c0 comp = true := by
      intro A B hw comp c0 h1 h2
      obtain ⟨c1, t1, f1, f2, f3⟩ := Cond.castable_spec (va_Nw.use (A := args) rfl (hK.2.1 _ hw))
      cases h1.symm.trans f2
      cases h2.symm.trans f1
      exact f3
    have self : ∀ (k : Nat) (q : vw_C), classes[k]? = some q → ∀ comp c0 : ClassId, s.vm.findClass q.1 = some comp → s.vm.findClass q.1 = some c0 → s.vm.assignable c0 comp = true := by
      intro k q hq comp c0 h1 h2
      have hKn := (hK.1.1 k q hq).2
      cases h1.symm.trans h2
      cases hKn.1.symm.trans h2
      exact va_assign hKn
    unfold okSt at hok
    simp only [Bool.or_eq_true, Bool.and_eq_true, beq_iff_eq] at hok
    rcases hok with ⟨rfl, rfl⟩ | ⟨rfl, ((rfl | rfl) | rfl) | rfl⟩
    · exact ⟨_, rfl, rfl, self 6 _ rfl⟩
    · exact ⟨_, rfl, rfl, self 8 _ rfl⟩
    · exact ⟨_, rfl, rfl, cast _ _ (nw 1004 (by decide +kernel) rfl)⟩
    · exact ⟨_, rfl, rfl, cast _ _ (nw 1005 (by decide +kernel) rfl)⟩
    · exact ⟨_, rfl, rfl, cast _ _ (nw 1003 (by decide +kernel) rfl)⟩
  obtain ⟨q, hq, ht, hasg⟩ := key
  obtain ⟨e4, hav, -⟩ := hM.obj hv hq
  obtain ⟨-, kA, comp, g1, g2, g3, -⟩ := hK.arO ht
  obtain ⟨kE, hkE, -⟩ := Vm.findClass_spec g3
  obtain ⟨r, hr2, cellV, q1, q2, q3, -⟩ := hav
  have hfc := (hK.1.1 tv q hq).2.1
  obtain ⟨kC, hkC, -⟩ := Vm.findClass_spec hfc
  show W p g.1 e R s m args below meth c H locs ce sl (Z below args s) (F0 m pc la (.ref (ad g v) :: .int i :: .ref (ad g a) :: st.map (tr g)))
  rw [e1, e4]
  refine W.aast hx hb hat (fun q h => by cases h) (fun h => by cases h) g1 g2 rfl hkE ⟨h0, by show _ < (arrV _ _ _).slots.size; rw [arrV_size]; exact hlt⟩ q1 (fun q h => by rw [h] at q3; cases q3) (by rw [q2]; exact hkC) (by rw [q2]; exact hasg _ _ g3 hfc) rfl rfl d fun H1 f1 f2 f3 => ?_
  refine k1 p e s m args below meth c C H1 _ la (hM.set ha0 f2 f3 ?_) (hF.put ha0 f3) hL
  show H1[gB g + a]? = some (vp_cell (gA g t) ((l.set i.toNatClampNeg (some v)).length, .inr (.inr (.inr (.inr (fun j => ((l.set i.toNatClampNeg (some v)).getD j none).map (ad g)))))))
  have e3 := upd_setR (g := g) (v := some v) hlt
  rw [f1, vp_cell_q, vp_cell_q, arrV_store, List.length_set, ← e3, ← e4]
  rfl
theorem v_alen {a : Nat} {F : Int32 → Option α} (d : decode cc pc = .ok (.arraylength, 1)) (hf : (lenA h a).bind F = some o) (kk : ∀ v, F v = some o → V g y cc mL rt R Z ce sl h (pc + 1) ls (.int v :: st)) : V g y cc mL rt R Z ce sl h pc ls (.ref a :: st) := by
  obtain ⟨v, e0, hf⟩ := bnd hf
  have k1 := kk v hf
  intro p e s m args below meth c C H locs la hM hF hL
  obtain ⟨hx, hb, hml, hr, hlc, hnme, hown, hts, hK, hX⟩ := id C
  have k2 := k1 p e s m args below meth c C H locs la hM hF hL
  show W p g.1 e R s m args below meth c H locs ce sl (Z below args s) (F0 m pc la (.ref (ad g a) :: st.map (tr g)))
  unfold lenA at e0
  split at e0
  · rename_i l hl
    cases e0
    obtain ⟨e1, hat, -⟩ := hM.ints hl
    rw [e1]
    exact va_alen (D := gD g) hx hb hK.1 (va_P1 hat) 0 0 rfl (ty := .int) rfl rfl d k2
  · rename_i l hl
    cases e0
    obtain ⟨e1, hat, -⟩ := hM.longs hl
    rw [e1]
    exact va_alen (D := gD g) hx hb hK.1 (va_P1 hat) 0 1 rfl (ty := .long) rfl rfl d k2
  · cases e0
theorem v_newI {n : Int32} {N : Nat} {F : MH → Nat → Option α} (d : decode cc pc = .ok (.newarray .int, 2)) (hw : Cond.arrayClass .int ∈ gtbl) (hN : N ≤ 100000) (hce : ce + 1 ≤ R.cells) (hsl : sl + N ≤ R.slots) (hf : naI h n N F = some o) (kk : ∀ h1 a, F h1 a = some o → V g y cc mL rt R Z (ce + 1) (sl + N) h1 (pc + 2) ls (.ref a :: st)) : V g y cc mL rt R Z ce sl h pc ls (.int n :: st) := by
  unfold naI at hf
  split at hf
  · cases hf
  rename_i hn
  have h0 : ¬ n < 0 := fun q => hn (Or.inl q)
  have h1 : n.toNatClampNeg ≤ N := Nat.not_lt.mp fun q => hn (Or.inr q)
  have k1 := kk _ _ hf
  intro p e s m args below meth c C H locs la hM hF hL
  obtain ⟨hx, hb, hml, hr, hlc, hnme, hown, hts, hK, hX⟩ := id C
  refine va_newaK (atype := .int) hx hb (hts _ hw) rfl d rfl h0 rfl (by show n.toNatClampNeg * 4 ≤ 536870912; omega) hce (by omega) hM.1 fun H1 cA e1 z1 o1 hAr hNm => ?_
  rw [← hM.1] at e1 z1 o1
  cases hNm.symm.trans hK.ar.1.2
  refine W.widen (Nat.le_refl _) (Nat.add_le_add_left h1 sl) ?_
  have k2 := k1 p e s m args below meth c C H1 locs la (hM.push z1 o1 (by
    show H1[gB g + h.length]? = some (vp_cell (gA g 0) ((List.replicate n.toNatClampNeg (0 : Int32)).length, .inl (fun j => (List.replicate n.toNatClampNeg (0 : Int32)).getD j 0)))
    rw [← hM.1, e1, vp_cell_i, List.length_replicate]
    refine congrArg (fun f => some (arrV (gA g 0) n.toNatClampNeg f)) (funext fun j => ?_)
    show Value.int 0 = Value.int ((List.replicate n.toNatClampNeg (0 : Int32)).getD j 0)
    rw [List.getD_eq_getElem?_getD, List.getElem?_replicate]
    split <;> rfl)) ⟨fun q hq => by rw [o1 q (by rw [hM.1]; have := hM.len; omega)]; exact hF.1 q hq, hF.2⟩ hL
  have k3 : W p g.1 e R s m args below meth c H1 locs (ce + 1) (sl + N) (Z below args s) (F0 m (pc + 2) la (.ref (ad g h.length) :: st.map (tr g))) := k2
  rw [ad_pos hM.len] at k3
  exact k3
theorem v_newL {n : Int32} {N : Nat} {F : MH → Nat → Option α} (d : decode cc pc = .ok (.newarray .long, 2)) (hw : Cond.arrayClass .long ∈ gtbl) (hN : N ≤ 100000) (hce : ce + 1 ≤ R.cells) (hsl : sl + N ≤ R.slots) (hf : naL h n N F = some o) (kk : ∀ h1 a, F h1 a = some o → V g y cc mL rt R Z (ce + 1) (sl + N) h1 (pc + 2) ls (.ref a :: st)) : V g y cc mL rt R Z ce sl h pc ls (.int n :: st) := by
  unfold naL at hf
  split at hf
  · cases hf
  rename_i hn
  have h0 : ¬ n < 0 := fun q => hn (Or.inl q)
  have h1 : n.toNatClampNeg ≤ N := Nat.not_lt.mp fun q => hn (Or.inr q)
  have k1 := kk _ _ hf
  intro p e s m args below meth c C H locs la hM hF hL
  obtain ⟨hx, hb, hml, hr, hlc, hnme, hown, hts, hK, hX⟩ := id C
  refine va_newaK (atype := .long) hx hb (hts _ hw) rfl d rfl h0 rfl (by show n.toNatClampNeg * 8 ≤ 536870912; omega) hce (by omega) hM.1 fun H1 cA e1 z1 o1 hAr hNm => ?_
  rw [← hM.1] at e1 z1 o1
  cases hNm.symm.trans hK.ar.2.1.2
  refine W.widen (Nat.le_refl _) (Nat.add_le_add_left h1 sl) ?_
  have k2 := k1 p e s m args below meth c C H1 locs la (hM.push z1 o1 (by
    show H1[gB g + h.length]? = some (vp_cell (gA g 1) ((List.replicate n.toNatClampNeg (0 : Int64)).length, .inr (.inl (fun j => (List.replicate n.toNatClampNeg (0 : Int64)).getD j 0))))
    rw [← hM.1, e1, vp_cell_l, List.length_replicate]
    refine congrArg (fun f => some (arrV (gA g 1) n.toNatClampNeg f)) (funext fun j => ?_)
    show Value.long 0 = Value.long ((List.replicate n.toNatClampNeg (0 : Int64)).getD j 0)
    rw [List.getD_eq_getElem?_getD, List.getElem?_replicate]
    split <;> rfl)) ⟨fun q hq => by rw [o1 q (by rw [hM.1]; have := hM.len; omega)]; exact hF.1 q hq, hF.2⟩ hL
  have k3 : W p g.1 e R s m args below meth c H1 locs (ce + 1) (sl + N) (Z below args s) (F0 m (pc + 2) la (.ref (ad g h.length) :: st.map (tr g))) := k2
  rw [ad_pos hM.len] at k3
  exact k3
theorem v_newR {t idx : Nat} {n : Int32} {N : Nat} {F : MH → Nat → Option α} (ht : t = 3 ∨ t = 4) (d : decode cc pc = .ok (.anewarray idx, 3)) (hw : Cond.classLink y.cls idx (rE t) ∈ gtbl) (hN : N ≤ 100000) (hce : ce + 1 ≤ R.cells) (hsl : sl + N ≤ R.slots) (hf : naR h t n N F = some o) (kk : ∀ h1 a, F h1 a = some o → V g y cc mL rt R Z (ce + 1) (sl + N) h1 (pc + 3) ls (.ref a :: st)) : V g y cc mL rt R Z ce sl h pc ls (.int n :: st) := by
  unfold naR at hf
  split at hf
  · cases hf
  rename_i hn
  have h0 : ¬ n < 0 := fun q => hn (Or.inl q)
  have h1 : n.toNatClampNeg ≤ N := Nat.not_lt.mp fun q => hn (Or.inr q)
  have k1 := kk _ _ hf
  intro p e s m args below meth c C H locs la hM hF hL
  obtain ⟨hx, hb, hml, hr, hlc, hnme, hown, hts, hK, hX⟩ := id C
  have hAO : va_AO (rE t) s ∧ s.vm.findClass ("[" ++ (FieldType.object (rE t)).toString) = some (gA g t) := by
    rcases ht with rfl | rfl
    · obtain ⟨-, _, _, -, -, -, h4⟩ := hK.arO (t := 3) rfl
      exact ⟨hK.2.2.1, h4⟩
    · obtain ⟨-, _, _, -, -, -, h4⟩ := hK.arO (t := 4) rfl
      exact ⟨hK.2.2.2.1, h4⟩
  refine W.anew hx hb hown (hts _ hw) (va_AO.use hAO.1) rfl d rfl h0 (by omega) hce (by omega) fun cA kA comp f1 f2 f3 f4 => ?_
  cases f1.symm.trans hAO.2
  generalize hH1 : H.push ({ cls := gA g t, slots := Array.replicate n.toNatClampNeg .null, vm := .none } : Cell) = H1
  have z1 : H1.size = H.size + 1 := by rw [← hH1, Array.size_push]
  have e1 : H1[H.size]? = some (arrV (gA g t) n.toNatClampNeg (fun _ => .null)) := by rw [← hH1, Array.getElem?_push_size, ← arrV_new]
  have o1 : ∀ q : Nat, q < H.size → H1[q]? = H[q]? := fun q hq => by rw [← hH1, Array.getElem?_push, if_neg (Nat.ne_of_lt hq)]
  refine W.widen (Nat.le_refl _) (Nat.add_le_add_left h1 sl) ?_
  have k2 := k1 p e s m args below meth c C H1 locs la (hM.push z1 o1 (by
    show H1[gB g + h.length]? = some (vp_cell (gA g t) ((List.replicate n.toNatClampNeg (none : Option Nat)).length, .inr (.inr (.inr (.inr (fun j => ((List.replicate n.toNatClampNeg (none : Option Nat)).getD j none).map (ad g)))))))
    rw [← hM.1, e1, vp_cell_q, List.length_replicate]
    refine congrArg (fun f => some (arrV (gA g t) n.toNatClampNeg f)) (funext fun j => ?_)
    show Value.null = va_rf (((List.replicate n.toNatClampNeg (none : Option Nat)).getD j none).map (ad g))
    rw [List.getD_eq_getElem?_getD, List.getElem?_replicate]
    split <;> rfl)) ⟨fun q hq => by rw [o1 q (by rw [hM.1]; have := hM.len; omega)]; exact hF.1 q hq, hF.2⟩ hL
  have k3 : W p g.1 e R s m args below meth c H1 locs (ce + 1) (sl + N) (Z below args s) (F0 m (pc + 3) la (.ref (ad g h.length) :: st.map (tr g))) := k2
  rw [ad_pos hM.len, ← hM.1] at k3
  exact k3
/-- reading the script, in the law alone -/
theorem v_sld {i v : Int32} (d : decode cc pc = .ok (.iaload, 1)) (hin : vp_in i (gX g).length) (hv : (gX g).getD i.toNatClampNeg 0 = v) (kk : V g y cc mL rt R Z ce sl h (pc + 1) ls (.int v :: st)) : V g y cc mL rt R Z ce sl h pc ls (.int i :: .ref 0 :: st) := by
  intro p e s m args below meth c C H locs la hM hF hL
  obtain ⟨hx, hb, hml, hr, hlc, hnme, hown, hts, hK, hX⟩ := id C
  have k2 := kk p e s m args below meth c C H locs la hM hF hL
  obtain ⟨hbl, scr, h1, h2, h3, h4, h5⟩ := hX
  have hlt : i.toNatClampNeg < (gX g).length := Nat.not_le.mp fun q => hin (Or.inr q)
  refine W.iald (v := .int v) hx hb (a := gb g) (by rw [hF.1 _ hbl]; exact h1) h2 h3 (by rw [h4]; exact hin) (by rw [h5 _ hlt, ← hv]) rfl rfl d k2
theorem v_slen {X : List Int32} (hXX : gX g = X) (d : decode cc pc = .ok (.arraylength, 1)) (kk : V g y cc mL rt R Z ce sl h (pc + 1) ls (.int (Int32.ofNat X.length) :: st)) : V g y cc mL rt R Z ce sl h pc ls (.ref 0 :: st) := by
  subst hXX
  intro p e s m args below meth c C H locs la hM hF hL
  obtain ⟨hx, hb, hml, hr, hlc, hnme, hown, hts, hK, hX⟩ := id C
  have k2 := kk p e s m args below meth c C H locs la hM hF hL
  obtain ⟨hbl, scr, h1, h2, h3, h4, h5⟩ := hX
  exact W.alen (n := Int32.ofNat (gX g).length) hx hb (a := gb g) (by rw [hF.1 _ hbl]; exact h1) h2 (by rw [h4] <;> rfl) rfl rfl d k2
def rdS (X : List Int32) (i : Int32) : Option Int32 := if i < 0 then none else X[i.toNatClampNeg]?
theorem rdS_of {X : List Int32} {i v : Int32} (e : rdS X i = some v) : vp_in i X.length ∧ X.getD i.toNatClampNeg 0 = v := by
  unfold rdS at e
  split at e
  · cases e
  · rename_i h0
    exact ⟨in_of h0 (List.getElem?_eq_some_iff.mp e).1, by rw [List.getD_eq_getElem?_getD, e]; rfl⟩
theorem v_sldB {X : List Int32} {i : Int32} {F : Int32 → Option α} (hXX : gX g = X) (d : decode cc pc = .ok (.iaload, 1)) (hf : (rdS X i).bind F = some o) (kk : ∀ v, F v = some o → V g y cc mL rt R Z ce sl h (pc + 1) ls (.int v :: st)) : V g y cc mL rt R Z ce sl h pc ls (.int i :: .ref 0 :: st) := by
  subst hXX
  obtain ⟨v, e, hf⟩ := bnd hf
  exact v_sld d (rdS_of e).1 (rdS_of e).2 (kk v hf)
theorem v_objInit {idx a : Nat} (d : decode cc pc = .ok (.invokespecial idx, 3)) (hw : Cond.methodLink y.cls idx objectInit ∈ gtbl) (hw2 : Cond.instanceMethod objectInit ∈ gtbl) (hw3 : Cond.code objectInit ⟨#[0xb1]⟩ 1 none ∈ gtbl) (hfr : 1 ≤ R.frames) (hlo : (st.map fun v => v.category).sum + 12 ≤ R.locals) (kk : V g y cc mL rt R Z ce sl h (pc + 3) ls st) : V g y cc mL rt R Z ce sl h pc ls (.ref a :: st) := by
  intro p e s m args below meth c C H locs la hM hF hL
  obtain ⟨hx, hb, hml, hr, hlc, hnme, hown, hts, hK, hX⟩ := id C
  have hsum : ((st.map (tr g)).map fun v => v.category).sum = (st.map fun v => v.category).sum := by
    rw [List.map_map]
    exact congrArg List.sum (List.map_congr_left fun v _ => tr_cat g v)
  exact W.objInit hx hb hown (hts _ hw) (hts _ hw2) (hts _ hw3) rfl (by show la.size = c.maxLocals; rw [hml]; exact hL.1) rfl d hfr (by show 2 * 0 + _ + 12 ≤ _; rw [hsum]; omega) (kk p e s m args below meth c C H locs la hM hF hL)
/-- tests of an object's class: which tag is of which -/
def isIn (t u : Nat) : Option Bool := if t ∈ [1, 2, 4, 8] then (if u = 2 then some (t == 2 || t == 4) else if u = 4 then some (t == 4) else if u = 1 then some (t == 1) else none) else none
def uN : Nat → String
  | 2 => "TreeSteps$Lower"
  | 4 => "TreeSteps$Plain"
  | _ => "TreeSteps$Keeping"
theorem v_inst {idx a u : Nat} {F : Int32 → Option α} (hu : u = 1 ∨ u = 2 ∨ u = 4) (d : decode cc pc = .ok (.instanceof idx, 3)) (hw : Cond.classLink y.cls idx (uN u) ∈ gtbl) (hf : (((tg h a).bind fun t => isIn t u).bind fun b => F (if b then 1 else 0)) = some o) (kk : ∀ v, F v = some o → V g y cc mL rt R Z ce sl h (pc + 3) ls (.int v :: st)) : V g y cc mL rt R Z ce sl h pc ls (.ref a :: st) := by
  obtain ⟨b, e0, hf⟩ := bnd hf
  obtain ⟨t, e0, e2⟩ := bnd e0
  have k1 := kk _ hf
  obtain ⟨fs, hfs⟩ := tg_of e0
  intro p e s m args below meth c C H locs la hM hF hL
  obtain ⟨hx, hb, hml, hr, hlc, hnme, hown, hts, hK, hX⟩ := id C
  have k2 := k1 p e s m args below meth c C H locs la hM hF hL
  have htm : t ∈ [1, 2, 4, 8] := Classical.byContradiction fun z => by
    unfold isIn at e2
    rw [if_neg z] at e2
    cases e2
  unfold isIn at e2
  rw [if_pos htm] at e2
  have hcq : ∃ q, classes[t]? = some q := by
    simp only [List.mem_cons, List.not_mem_nil, or_false] at htm
    rcases htm with rfl | rfl | rfl | rfl <;> exact ⟨_, rfl⟩
  obtain ⟨q, hq⟩ := hcq
  obtain ⟨e1, hat, ha0⟩ := hM.obj hfs hq
  have hrecv := va_recv hK.1 (va_P1 hat) hq (q0 := 0) rfl
  show W p g.1 e R s m args below meth c H locs ce sl (Z below args s) (F0 m pc la (.ref (ad g a) :: st.map (tr g)))
  rw [e1]
  have yes : ∀ A, Cond.castable q.1 A ∈ nwt → Cond.classLink y.cls idx A ∈ gtbl → b = true → W p g.1 e R s m args below meth c H locs ce sl (Z below args s) (F0 m pc la (.ref (gB g + a) :: st.map (tr g))) := by
    intro A h1 h2 h3
    subst h3
    exact va_instY hx hb hown (hts _ h2) (hK.2.1 _ h1) hrecv d k2
  have same : Cond.classLink y.cls idx q.1 ∈ gtbl → b = true → W p g.1 e R s m args below meth c H locs ce sl (Z below args s) (F0 m pc la (.ref (gB g + a) :: st.map (tr g))) := by
    intro h2 h3
    subst h3
    exact va_instS hx hb hown (hts _ h2) (hK.1.1 t q hq).2 hrecv d k2
  have no : ∀ A, (q.1, A) ∈ ncs → Cond.classLink y.cls idx A ∈ gtbl → b = false → W p g.1 e R s m args below meth c H locs ce sl (Z below args s) (F0 m pc la (.ref (gB g + a) :: st.map (tr g))) := by
    intro A h1 h2 h3
    subst h3
    exact va_instNo hx hb hown (hts _ h2) (hK.2.2.2.2.2 _ h1) hrecv d k2
  simp only [List.mem_cons, List.not_mem_nil, or_false] at htm
  rcases hu with rfl | rfl | rfl <;> rcases htm with rfl | rfl | rfl | rfl <;> cases hq <;> cases e2
  · exact same hw rfl
  · exact no _ (by decide) hw rfl
  · exact no _ (by decide) hw rfl
  · exact no _ (by decide) hw rfl
  · exact no _ (by decide) hw rfl
  · exact same hw rfl
  · exact yes _ (nw 1002 (by decide +kernel) rfl) hw rfl
  · exact no _ (by decide) hw rfl
  · exact no _ (by decide) hw rfl
  · exact no _ (by decide) hw rfl
  · exact same hw rfl
  · exact no _ (by decide) hw rfl
theorem v_instN {idx : Nat} (d : decode cc pc = .ok (.instanceof idx, 3)) (kk : V g y cc mL rt R Z ce sl h (pc + 3) ls (.int 0 :: st)) : V g y cc mL rt R Z ce sl h pc ls (.null :: st) := fun p e s m args below meth c C H locs la hM hF hL => lv_instN C.1 C.2.1 d (kk p e s m args below meth c C H locs la hM hF hL)
end VA6

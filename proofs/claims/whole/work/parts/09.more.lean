/-! loops by fuel; calls by the kind of their answer; calls whose method the receiver's class decides -/
def lp {σ α : Type} (B : Nat → (σ → Option α) → σ → Option α) : Nat → σ → Option α
  | 0, _ => none
  | n + 1, s => B n (lp B n) s
theorem lp_succ {σ α : Type} (B : Nat → (σ → Option α) → σ → Option α) (n : Nat) (s : σ) : lp B (n + 1) s = B n (lp B n) s := rfl
theorem lp_ind {σ α : Type} {B : Nat → (σ → Option α) → σ → Option α} {o : α} {P : σ → Prop} (step : ∀ n k, (∀ s, k s = some o → P s) → ∀ s, B n k s = some o → P s) : ∀ n s, lp B n s = some o → P s
  | 0, s, h => by cases h
  | n + 1, s, h => step n (lp B n) (lp_ind step n) s h
def okT (h : MH) (a : Nat) : Option Unit := (tg h a).bind fun t => if t < 13 then some () else none
theorem okT_of {h : MH} {a : Nat} {u : Unit} (e : okT h a = some u) : ∃ t q, classes[t]? = some q ∧ chk h a t = some () := by
  unfold okT at e
  obtain ⟨t, e1, e2⟩ := bnd e
  obtain ⟨fs, hfs⟩ := tg_of e1
  split at e2
  · rename_i ht
    have hq : ∃ q, classes[t]? = some q := ⟨_, List.getElem?_eq_getElem (by simpa using ht)⟩
    obtain ⟨q, hq⟩ := hq
    exact ⟨t, q, hq, by unfold chk; rw [hfs]; simp⟩
  · cases e2
theorem chk_tg {h : MH} {a t : Nat} (e : tg h a = some t) : chk h a t = some () := by
  obtain ⟨fs, hfs⟩ := tg_of e
  unfold chk
  rw [hfs]
  simp
section V9
variable {g : Gh} {y : MethodName} {cc : ByteArray} {mL : Nat} {rt : Option FieldType} {R : Room} {Z : Zt} {ce sl : Nat} {h : MH} {pc : Nat} {ls : List (Option Value)} {st : List Value} {α : Type} {o : α}
theorem v_icmp_ge_T {a b : Int32} {off : Int} {tgt : Nat} (d : decode cc pc = .ok (.if_icmp .ge off, 3)) (ht : (pc : Int) + off = (tgt : Int)) (hc : b ≤ a) (k : V g y cc mL rt R Z ce sl h tgt ls st) : V g y cc mL rt R Z ce sl h pc ls (.int b :: .int a :: st) := v_icmp_ge (α := Unit) (A := some ()) (B := none) (o := ()) d ht (if_pos hc) (fun _ => k) (fun q => by cases q)
theorem v_icmp_ge_F {a b : Int32} {off : Int} {tgt : Nat} (d : decode cc pc = .ok (.if_icmp .ge off, 3)) (ht : (pc : Int) + off = (tgt : Int)) (hc : ¬ b ≤ a) (k : V g y cc mL rt R Z ce sl h (pc + 3) ls st) : V g y cc mL rt R Z ce sl h pc ls (.int b :: .int a :: st) := v_icmp_ge (α := Unit) (A := none) (B := some ()) (o := ()) d ht (if_neg hc) (fun q => by cases q) (fun _ => k)
variable {y2 : MethodName} {cc2 : ByteArray} {mL2 n : Nat} {rt2 : Option FieldType} {rm : Room} {h1 : MH} {v : Value}
/-- the places of a static method in the tables -/
def LSt (own : String) (idx : Nat) (y : MethodName) (cc : ByteArray) (mL : Nat) (rt : Option FieldType) (n : Nat) : Prop := Cond.methodLink own idx y ∈ gtbl ∧ Cond.static y ∈ gtbl ∧ LC y cc mL rt n
/-- of a method that the receiver's class, of tag t, has itself -/
def LM (own : String) (idx t : Nat) (y : MethodName) (cc : ByteArray) (mL : Nat) (rt : Option FieldType) (n : Nat) : Prop := ∃ (C : String) (T : u_T) (N : Nat), classes[t]? = some (C, T, N) ∧ Cond.methodLink own idx y ∈ gtbl ∧ Cond.instanceMethod y ∈ gtbl ∧ Cond.selects C y y ∈ gtbl ∧ LC y cc mL rt n
def LI (own : String) (idx : Nat) (y : MethodName) (cc : ByteArray) (mL : Nat) (n : Nat) : Prop := (Cond.methodLink own idx y ∈ gtbl ∨ ∃ host, Cond.methodLinkNest own idx y host ∈ nwt) ∧ y.name = "<init>" ∧ Cond.instanceMethod y ∈ gtbl ∧ LC y cc mL none n
def LU (own : String) (idx : Nat) (y : MethodName) (cc : ByteArray) (mL : Nat) (rt : Option FieldType) (n : Nat) : Prop := Cond.methodLink own idx y ∈ gtbl ∧ Cond.sameMethod y.cls y.cls y.name y.desc ∈ gtbl ∧ Cond.superclass own y.cls ∈ gtbl ∧ Cond.instanceMethod y ∈ gtbl ∧ y.name ≠ "<init>" ∧ LC y cc mL rt n
/-- what the reference's own method has, where the receiver's class decides -/
def LX (own : String) (idx : Nat) (x2 : MethodName) (n : Nat) : Prop := Cond.methodLink own idx x2 ∈ gtbl ∧ Cond.sameMethod x2.cls x2.cls x2.name x2.desc ∈ gtbl ∧ Cond.instanceMethod x2 ∈ gtbl ∧ (∃ cc mL rt, Cond.code x2 cc mL rt ∈ gtbl) ∧ (x2.cls ≠ "java/lang/invoke/MethodHandle" ∧ x2.cls ≠ "java/lang/invoke/VarHandle") ∧ (parseMethodDescriptor x2.desc).map (fun d => d.parameters.length) = some n
theorem v_S1 {idx : Nat} {As rest : List Value} (L : LSt y.cls idx y2 cc2 mL2 rt2 n) (sp : Sp g y2 cc2 mL2 rt2 rm h As h1 (some v)) (hR : Rm R rm mL2 ce sl) (d : decode cc pc = .ok (.invokestatic idx, 3)) (hst : st = As.reverse ++ rest) (hn : As.length = n) (hcat : (rest.map fun v => v.category).sum ≤ 8) (k : V g y cc mL rt R Z (ce + rm.cells) (sl + rm.slots) h1 (pc + 3) ls (v :: rest)) : V g y cc mL rt R Z ce sl h pc ls st := v_callS L.1 L.2.1 L.2.2 sp hR d hst hn hcat k
theorem v_S0 {idx : Nat} {As rest : List Value} (L : LSt y.cls idx y2 cc2 mL2 rt2 n) (sp : Sp g y2 cc2 mL2 rt2 rm h As h1 none) (hR : Rm R rm mL2 ce sl) (d : decode cc pc = .ok (.invokestatic idx, 3)) (hst : st = As.reverse ++ rest) (hn : As.length = n) (hcat : (rest.map fun v => v.category).sum ≤ 8) (k : V g y cc mL rt R Z (ce + rm.cells) (sl + rm.slots) h1 (pc + 3) ls rest) : V g y cc mL rt R Z ce sl h pc ls st := v_callS L.1 L.2.1 L.2.2 sp hR d hst hn hcat k
theorem v_M1 {idx b t : Nat} {As rest : List Value} {u : Unit} (L : LM y.cls idx t y2 cc2 mL2 rt2 n) (hk : chk h b t = some u) (sp : Sp g y2 cc2 mL2 rt2 rm h (.ref b :: As) h1 (some v)) (hR : Rm R rm mL2 ce sl) (d : decode cc pc = .ok (.invokevirtual idx, 3)) (hst : st = As.reverse ++ .ref b :: rest) (hn : As.length = n) (hcat : (rest.map fun v => v.category).sum ≤ 8) (k : V g y cc mL rt R Z (ce + rm.cells) (sl + rm.slots) h1 (pc + 3) ls (v :: rest)) : V g y cc mL rt R Z ce sl h pc ls st := by
  obtain ⟨C, T, N, l1, l2, l3, l4, l5⟩ := L
  exact v_callV l1 l2 l3 l4 l5 hk sp hR d hst hn hcat k
theorem v_M0 {idx b t : Nat} {As rest : List Value} {u : Unit} (L : LM y.cls idx t y2 cc2 mL2 rt2 n) (hk : chk h b t = some u) (sp : Sp g y2 cc2 mL2 rt2 rm h (.ref b :: As) h1 none) (hR : Rm R rm mL2 ce sl) (d : decode cc pc = .ok (.invokevirtual idx, 3)) (hst : st = As.reverse ++ .ref b :: rest) (hn : As.length = n) (hcat : (rest.map fun v => v.category).sum ≤ 8) (k : V g y cc mL rt R Z (ce + rm.cells) (sl + rm.slots) h1 (pc + 3) ls rest) : V g y cc mL rt R Z ce sl h pc ls st := by
  obtain ⟨C, T, N, l1, l2, l3, l4, l5⟩ := L
  exact v_callV l1 l2 l3 l4 l5 hk sp hR d hst hn hcat k
theorem v_I0 {idx b : Nat} {As rest : List Value} (L : LI y.cls idx y2 cc2 mL2 n) (sp : Sp g y2 cc2 mL2 none rm h (.ref b :: As) h1 none) (hR : Rm R rm mL2 ce sl) (d : decode cc pc = .ok (.invokespecial idx, 3)) (hst : st = As.reverse ++ .ref b :: rest) (hn : As.length = n) (hcat : (rest.map fun v => v.category).sum ≤ 8) (k : V g y cc mL rt R Z (ce + rm.cells) (sl + rm.slots) h1 (pc + 3) ls rest) : V g y cc mL rt R Z ce sl h pc ls st := v_callI L.1 L.2.1 L.2.2.1 L.2.2.2 sp hR d hst hn hcat k
theorem v_U1 {idx b : Nat} {As rest : List Value} {u : Unit} (L : LU y.cls idx y2 cc2 mL2 rt2 n) (hk : okT h b = some u) (sp : Sp g y2 cc2 mL2 rt2 rm h (.ref b :: As) h1 (some v)) (hR : Rm R rm mL2 ce sl) (d : decode cc pc = .ok (.invokespecial idx, 3)) (hst : st = As.reverse ++ .ref b :: rest) (hn : As.length = n) (hcat : (rest.map fun v => v.category).sum ≤ 8) (k : V g y cc mL rt R Z (ce + rm.cells) (sl + rm.slots) h1 (pc + 3) ls (v :: rest)) : V g y cc mL rt R Z ce sl h pc ls st := by
  obtain ⟨t, q, hq, hk⟩ := okT_of hk
  exact v_callSU hq L.1 L.2.1 L.2.2.1 L.2.2.2.1 L.2.2.2.2.1 L.2.2.2.2.2 hk sp hR d hst hn hcat k
/-- a call that one of several methods answers: each within the room (f, l), none makes a cell -/
def SD (g : Gh) (x2 : MethodName) (rt : Option FieldType) (n f l : Nat) (h : MH) (b : Nat) (As : List Value) (h1 : MH) (r : Option Value) : Prop := ∃ (t : Nat) (C : String) (T : u_T) (N : Nat) (y2 : MethodName) (cc2 : ByteArray) (mL2 : Nat) (rm : Room), classes[t]? = some (C, T, N) ∧ Cond.instanceMethod y2 ∈ gtbl ∧ Cond.selects C x2 y2 ∈ gtbl ∧ LC y2 cc2 mL2 rt n ∧ chk h b t = some () ∧ Sp g y2 cc2 mL2 rt rm h (.ref b :: As) h1 r ∧ rm.frames + 1 ≤ f ∧ 8 + (mL2 + 11) + rm.locals ≤ l ∧ rm.cells = 0 ∧ rm.slots = 0
theorem v_D1 {idx b f l : Nat} {x2 : MethodName} {As rest : List Value} (L : LX y.cls idx x2 n) (D : SD g x2 rt2 n f l h b As h1 (some v)) (hR : f ≤ R.frames ∧ l ≤ R.locals ∧ ce ≤ R.cells ∧ sl ≤ R.slots) (d : decode cc pc = .ok (.invokevirtual idx, 3)) (hst : st = As.reverse ++ .ref b :: rest) (hn : As.length = n) (hcat : (rest.map fun v => v.category).sum ≤ 8) (k : V g y cc mL rt R Z ce sl h1 (pc + 3) ls (v :: rest)) : V g y cc mL rt R Z ce sl h pc ls st := by
  obtain ⟨t, C, T, N, y2, cc2, mL2, rm, d1, d2, d3, d4, d5, d6, d7, d8, d9, d10⟩ := D
  obtain ⟨cc0, mL0, rt0, hc0⟩ := L.2.2.2.1
  refine v_callU d1 L.1 L.2.1 L.2.2.1 hc0 L.2.2.2.2.1 L.2.2.2.2.2 d2 d3 d4 d5 d6 ⟨by omega, by omega, by omega, by omega⟩ d hst hn hcat ?_
  rw [d9, d10]
  exact k
end V9
def iof (h : MH) (a u : Nat) : Option Int32 := ((tg h a).bind fun t => isIn t u).bind fun b => some (if b then 1 else 0)
theorem v_inst2 {g : Gh} {y : MethodName} {cc : ByteArray} {mL : Nat} {rt : Option FieldType} {R : Room} {Z : Zt} {ce sl : Nat} {h : MH} {pc : Nat} {ls : List (Option Value)} {st : List Value} {α : Type} {o : α} {idx a u : Nat} {F : Int32 → Option α} (hu : u = 1 ∨ u = 2 ∨ u = 4) (d : decode cc pc = .ok (.instanceof idx, 3)) (hw : Cond.classLink y.cls idx (uN u) ∈ gtbl) (hf : (iof h a u).bind F = some o) (kk : ∀ v, F v = some o → V g y cc mL rt R Z ce sl h (pc + 3) ls (.int v :: st)) : V g y cc mL rt R Z ce sl h pc ls (.ref a :: st) := by
  obtain ⟨v, e, hf⟩ := bnd hf
  unfold iof at e
  obtain ⟨b, e1, e2⟩ := bnd e
  cases e2
  exact v_inst (F := fun v => F v) hu d hw (by rw [e1]; exact hf) kk

/-- the same as sp_of, for a method of the JDK that no row of natives runs -/
theorem sp_ofF {g : Gh} {y : MethodName} {cc : ByteArray} {mL : Nat} {rt : Option FieldType} {rm : Room} {h : MH} {As : List Value} {h' : MH} {r : Option Value} (hp : plainFor y = true) (hl : (lg_sl As).length ≤ mL) (k : V g y cc mL rt rm (ZQ g rm h' r) 0 0 h 0 (entL As mL) []) : Sp g y cc mL rt rm h As h' r := by
  unfold Sp Met
  refine MetFree.of_bodyRF (code := cc) (maxLocals := mL) (ret := rt) hp ?_ ?_
  · intro args s m h hn
    obtain ⟨meth, c, h1, h2, h3, h4, h5, h6, -, -⟩ := Cond.code_spec hn (atoms_spec (ws := Cond.code y cc mL rt :: gtbl) h _ List.mem_cons_self)
    exact ⟨meth, c, h1, h2, h3, h4, h5, h6⟩
  · intro p e s m args below meth c s₁ B hml hv _ hst
    obtain ⟨rfl, hM, hK, hSX⟩ := hv
    have hts := atoms_spec (ws := Cond.code y cc mL rt :: gtbl) B.pre
    have hown : s.vm.findClass y.cls = some m.cls := findClass_of_methodNamed B.named
    have k1 := k p e s m (As.map (tr g)).toArray below meth c ⟨B.exec, B.bytes, hml, B.returns, B.notSynchronized, (name_of_methodNamed B.named B.method).1, hown, fun w hw => hts w (List.mem_cons_of_mem _ hw), hK, hSX⟩ s.heap [] _ hM ⟨fun _ _ => rfl, fun _ h => by cases h⟩ (LV.ent hl)
    have hh0 : s₁.heap = s.heap := by rw [B.state]; rfl
    rw [lg_entry_eq] at hst
    obtain ⟨t, a1, o, b1, b2, b3⟩ := k1 s₁ hh0 (Stand.of_body B)
    exact ⟨t, o, hst.trans a1, b1, b2, ⟨b3.1, b3.2⟩⟩

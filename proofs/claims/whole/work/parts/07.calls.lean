/-! calls, entries, copies between arrays of longs -/
def entL : List Value → Nat → List (Option Value)
  | [], n => List.replicate n none
  | v :: vs, n => if v.category = 2 then some v :: none :: entL vs (n - 2) else some v :: entL vs (n - 1)
theorem entL_get (g : Gh) : ∀ (vs : List Value) (n k i : Nat) (v : Value), (entL vs n)[i]? = some (some v) → (k + i, tr g v) ∈ lv_args k (vs.map (tr g))
  | [], n, k, i, v, h => by
    simp only [entL, List.getElem?_replicate] at h
    split at h <;> simp at h
  | w :: vs, n, k, i, v, h => by
    unfold entL at h
    show (k + i, tr g v) ∈ (k, tr g w) :: lv_args (if (tr g w).category = 2 then k + 2 else k + 1) (vs.map (tr g))
    rw [tr_cat]
    by_cases hc : w.category = 2
    · rw [if_pos hc] at h
      rw [if_pos hc]
      match i, h with
      | 0, h =>
        simp at h
        subst h
        exact List.mem_cons_self
      | 1, h => simp at h
      | i + 2, h =>
        have h2 := entL_get g vs (n - 2) (k + 2) i v h
        rw [show k + (i + 2) = k + 2 + i by omega]
        exact List.mem_cons_of_mem _ h2
    · rw [if_neg hc] at h
      rw [if_neg hc]
      match i, h with
      | 0, h =>
        simp at h
        subst h
        exact List.mem_cons_self
      | i + 1, h =>
        have h2 := entL_get g vs (n - 1) (k + 1) i v h
        rw [show k + (i + 1) = k + 1 + i by omega]
        exact List.mem_cons_of_mem _ h2
theorem lg_sl_tr (g : Gh) : ∀ vs : List Value, (lg_sl (vs.map (tr g))).length = (lg_sl vs).length
  | [] => rfl
  | v :: vs => by
    have e : ∀ (w : Value) (ws : List Value), (lg_sl (w :: ws)).length = (if w.category = 2 then 2 else 1) + (lg_sl ws).length := fun w ws => by
      unfold lg_sl
      rw [List.flatMap_cons, List.length_append]
      split <;> rfl
    show (lg_sl (tr g v :: vs.map (tr g))).length = _
    rw [e, e, tr_cat, lg_sl_tr g vs]
theorem LV.ent {g : Gh} {As : List Value} {mL : Nat} (hl : (lg_sl As).length ≤ mL) : LV g ((lg_sl (As.map (tr g)) ++ List.replicate (mL - (lg_sl (As.map (tr g))).length) Slot.unset).toArray) mL (entL As mL) := by
  have h := lv_entry (As.map (tr g)) (n := mL) (by rw [lg_sl_tr]; exact hl)
  refine ⟨h.1, h.2.1, fun q hq => ?_⟩
  obtain ⟨⟨j, w⟩, hm, rfl⟩ := List.mem_map.mp hq
  have hm := ((prs_mem _ 0 j w).mp hm).2
  rw [Nat.sub_zero] at hm
  have h2 := entL_get g As mL 0 j w hm
  rw [Nat.zero_add] at h2
  exact h.2.2 _ h2
theorem sp_of {g : Gh} {y : MethodName} {cc : ByteArray} {mL : Nat} {rt : Option FieldType} {rm : Room} {h : MH} {As : List Value} {h' : MH} {r : Option Value} (hp : plainName y.cls = true) (hl : (lg_sl As).length ≤ mL) (k : V g y cc mL rt rm (ZQ g rm h' r) 0 0 h 0 (entL As mL) []) : Sp g y cc mL rt rm h As h' r := by
  refine Met.ofW (cc := cc) (maxL := mL) (ret := rt) hp rfl ?_
  intro p e s m args below meth c s₁ B hml hv
  obtain ⟨rfl, hM, hK, hSX⟩ := hv
  have hts := atoms_spec (ws := Cond.code y cc mL rt :: gtbl) B.pre
  have hown : s.vm.findClass y.cls = some m.cls := findClass_of_methodNamed B.named
  have k1 := k p e s m (As.map (tr g)).toArray below meth c ⟨B.exec, B.bytes, hml, B.returns, B.notSynchronized, (name_of_methodNamed B.named B.method).1, hown, fun w hw => hts w (List.mem_cons_of_mem _ hw), hK, hSX⟩ s.heap [] _ hM ⟨fun _ _ => rfl, fun _ h => by cases h⟩ (LV.ent hl)
  rw [lg_entry_eq]
  exact k1
theorem gg : GoodIn gtbl gtbl := fun w hw => ⟨hw, good_of_word (List.mem_filter.mp hw).2⟩
theorem gg1 {w0 : Cond} (h : w0 ∈ gtbl) : GoodIn gtbl (w0 :: gtbl) := fun w hw => (List.mem_cons.mp hw).elim (fun e => by rw [e]; exact gg w0 h) (gg w)
theorem Pc_blind (g : Gh) (h : MH) (As : List Value) : FrameBlind (Pc g h As) := fun a U gg mk q => ⟨q.1, q.2.1, KK.same (u := U) (U := U.calling gg mk a) rfl q.2.2.1, q.2.2.2.1, va_X.moved (u := U) (U := U.calling gg mk a) (Vm.Alike.refl U.vm) q.2.2.2.2⟩
theorem cat_tr (g : Gh) (st : List Value) : ((st.map (tr g)).map fun v => v.category).sum = (st.map fun v => v.category).sum := by
  rw [List.map_map]
  exact congrArg List.sum (List.map_congr_left fun v _ => tr_cat g v)
/-- what a callee has in the tables -/
def LC (y : MethodName) (cc : ByteArray) (mL : Nat) (rt : Option FieldType) (n : Nat) : Prop := Cond.code y cc mL rt ∈ gtbl ∧ Cond.initialized y.cls ∈ gtbl ∧ (y.cls ≠ "java/lang/invoke/MethodHandle" ∧ y.cls ≠ "java/lang/invoke/VarHandle") ∧ (parseMethodDescriptor y.desc).map (fun d => d.parameters.length) = some n
theorem LC.len {y : MethodName} {cc : ByteArray} {mL n : Nat} {rt : Option FieldType} (h : LC y cc mL rt n) : ∀ sig, parseMethodDescriptor y.desc = some sig → n = sig.parameters.length := fun sig hs => by
  have h2 := h.2.2.2
  rw [hs] at h2
  exact (Option.some.inj h2).symm
section VC7
variable {g : Gh} {y : MethodName} {cc : ByteArray} {mL : Nat} {rt : Option FieldType} {R : Room} {Z : Zt} {ce sl : Nat} {h : MH} {pc : Nat} {ls : List (Option Value)} {st : List Value} {α : Type} {o : α}
theorem v_ran {p : Program} {e : Env} {s : State} {m : MethodId} {args : Array Value} {below : List Frame} {meth : Method} {c : Code} {H : Heap} {locs : List Loc} {la : Array Slot} {mc ms : Nat} {rest : List Value} {h1 : MH} {r : Option Value} {As' : Array Value} {st' : List Value} (run : va_Run p g.1 e R s m args below meth c H locs ce sl mc ms (F0 m pc la st') (rest.map (tr g)) (Qc g h1 r As') (fre g)) (hF : Fr g s H locs)
    (k : ∀ (H1 : Heap) (locs1 : List Loc), MR g H1 h1 → Fr g s H1 locs1 → W p g.1 e R s m args below meth c H1 locs1 (ce + mc) (sl + ms) (Z below args s) (F0 m (pc + 3) la ((r.toList ++ rest).map (tr g)))) : W p g.1 e R s m args below meth c H locs ce sl (Z below args s) (F0 m pc la st') := by
  intro T hT X
  obtain ⟨v, st₀, t, T', L, h0, X', hL, e1, e2, ⟨q1, q2, q3⟩, stp⟩ := run T hT X
  have ev : v = r.map (tr g) := by injection q1
  subst ev
  obtain ⟨t2, a1, b1⟩ := k T'.heap (locs ++ L) (by rw [e1]; exact q2) ⟨fun q hq => by rw [e1, q3 q hq, h0]; exact hF.1 q hq, fun l hl => (List.mem_append.mp hl).elim (hF.2 l) (hL l)⟩ T' rfl X'
  refine ⟨t2, stp t2 ?_, b1⟩
  have es : (r.map (tr g)).toList ++ rest.map (tr g) = (r.toList ++ rest).map (tr g) := by cases r <;> rfl
  rw [es]
  exact a1
variable {y2 : MethodName} {cc2 : ByteArray} {mL2 n : Nat} {rt2 : Option FieldType} {rm : Room} {h1 : MH} {r : Option Value}
/-- the callee's room within the caller's -/
abbrev Rm (R rm : Room) (mL2 ce sl : Nat) : Prop := rm.frames + 1 ≤ R.frames ∧ 8 + (mL2 + 11) + rm.locals ≤ R.locals ∧ ce + rm.cells ≤ R.cells ∧ sl + rm.slots ≤ R.slots
theorem v_callS {idx : Nat} {As rest : List Value} (hl : Cond.methodLink y.cls idx y2 ∈ gtbl) (hs : Cond.static y2 ∈ gtbl) (hC : LC y2 cc2 mL2 rt2 n) (sp : Sp g y2 cc2 mL2 rt2 rm h As h1 r) (hR : Rm R rm mL2 ce sl) (d : decode cc pc = .ok (.invokestatic idx, 3)) (hst : st = As.reverse ++ rest) (hn : As.length = n) (hcat : (rest.map fun v => v.category).sum ≤ 8) (k : V g y cc mL rt R Z (ce + rm.cells) (sl + rm.slots) h1 (pc + 3) ls (r.toList ++ rest)) : V g y cc mL rt R Z ce sl h pc ls st := by
  subst hst
  intro p e s m args below meth c C H locs la hM hF hL
  obtain ⟨hx, hb, hml, hr, hlc, hnme, hown, hts, hK, hX⟩ := id C
  refine v_ran (va_runS (As := As.map (tr g)) (rest := rest.map (tr g)) (n := n) ⟨hx, hb, hml, hown, hts⟩ sp ⟨⟨rfl, rfl, hR.1, hR.2.1, pay_in hts (gg1 hC.1), List.mem_cons_self, hts _ hC.1, hts _ hC.2.1, hC.2.2.1, hC.len, hts _ hl⟩, hts _ hs⟩ ⟨Pc_blind g h As, fun U hU hW => ⟨rfl, by rw [hU]; exact hM, hK.moved hW, hX.go hF hU hW⟩⟩ rfl (by rw [List.length_map]; exact hn) hL.1 (by show (As.reverse ++ rest).map (tr g) = _; rw [List.map_append, List.map_reverse]) (lv_room (by rw [cat_tr]; exact hcat)) d ⟨hR.2.2.1, hR.2.2.2⟩) hF (fun H1 locs1 hM1 hF1 => k p e s m args below meth c C H1 locs1 la hM1 hF1 hL)
theorem v_callV {idx b t N : Nat} {C2 : String} {T : u_T} {As rest : List Value} {u : Unit} (hc : classes[t]? = some (C2, T, N)) (hl : Cond.methodLink y.cls idx y2 ∈ gtbl) (hi : Cond.instanceMethod y2 ∈ gtbl) (hs : Cond.selects C2 y2 y2 ∈ gtbl) (hC : LC y2 cc2 mL2 rt2 n) (hk : chk h b t = some u) (sp : Sp g y2 cc2 mL2 rt2 rm h (.ref b :: As) h1 r) (hR : Rm R rm mL2 ce sl) (d : decode cc pc = .ok (.invokevirtual idx, 3)) (hst : st = As.reverse ++ .ref b :: rest) (hn : As.length = n) (hcat : (rest.map fun v => v.category).sum ≤ 8) (k : V g y cc mL rt R Z (ce + rm.cells) (sl + rm.slots) h1 (pc + 3) ls (r.toList ++ rest)) : V g y cc mL rt R Z ce sl h pc ls st := by
  subst hst
  intro p e s m args below meth c C H locs la hM hF hL
  obtain ⟨hx, hb, hml, hr, hlc, hnme, hown, hts, hK, hX⟩ := id C
  obtain ⟨fs, hfs⟩ := chk_of hk
  obtain ⟨e1, hat, ha0⟩ := hM.obj hfs hc
  have hrecv := va_recv hK.1 (va_P1 hat) hc (q0 := 0) rfl
  refine v_ran (va_runV (As := As.map (tr g)) (rest := rest.map (tr g)) (b := ad g b) (C := C2) (n := n) ⟨hx, hb, hml, hown, hts⟩ sp ⟨⟨rfl, rfl, hR.1, hR.2.1, pay_in hts (gg1 hC.1), List.mem_cons_self, hts _ hC.1, hts _ hC.2.1, hC.2.2.1, hC.len, hts _ hl⟩, hts _ hi, hts _ hs⟩ ⟨Pc_blind g h _, by rw [e1]; exact hrecv, fun U hU hW => ⟨rfl, by rw [hU]; exact hM, hK.moved hW, hX.go hF hU hW⟩⟩ rfl (by rw [List.length_map]; exact hn) hL.1 (by show (As.reverse ++ .ref b :: rest).map (tr g) = _; rw [List.map_append, List.map_reverse]; rfl) (lv_room (by rw [cat_tr]; exact hcat)) d ⟨hR.2.2.1, hR.2.2.2⟩) hF (fun H1 locs1 hM1 hF1 => k p e s m args below meth c C H1 locs1 la hM1 hF1 hL)
/-- a method that a class overrides, or inherits: the reference names x2, the class of the receiver has y2 -/
theorem v_callU {idx b t N : Nat} {C2 : String} {T : u_T} {x2 : MethodName} {cc0 : ByteArray} {mL0 : Nat} {rt0 : Option FieldType} {As rest : List Value} {u : Unit} (hc : classes[t]? = some (C2, T, N)) (hl : Cond.methodLink y.cls idx x2 ∈ gtbl) (hsm : Cond.sameMethod x2.cls x2.cls x2.name x2.desc ∈ gtbl) (hi0 : Cond.instanceMethod x2 ∈ gtbl) (hc0 : Cond.code x2 cc0 mL0 rt0 ∈ gtbl) (hnh : x2.cls ≠ "java/lang/invoke/MethodHandle" ∧ x2.cls ≠ "java/lang/invoke/VarHandle") (hdx : (parseMethodDescriptor x2.desc).map (fun d => d.parameters.length) = some n) (hi : Cond.instanceMethod y2 ∈ gtbl) (hs : Cond.selects C2 x2 y2 ∈ gtbl) (hC : LC y2 cc2 mL2 rt2 n) (hk : chk h b t = some u) (sp : Sp g y2 cc2 mL2 rt2 rm h (.ref b :: As) h1 r) (hR : Rm R rm mL2 ce sl) (d : decode cc pc = .ok (.invokevirtual idx, 3)) (hst : st = As.reverse ++ .ref b :: rest) (hn : As.length = n) (hcat : (rest.map fun v => v.category).sum ≤ 8) (k : V g y cc mL rt R Z (ce + rm.cells) (sl + rm.slots) h1 (pc + 3) ls (r.toList ++ rest)) : V g y cc mL rt R Z ce sl h pc ls st := by
  subst hst
  intro p e s m args below meth c C H locs la hM hF hL
  obtain ⟨hx, hb, hml, hr, hlc, hnme, hown, hts, hK, hX⟩ := id C
  obtain ⟨fs, hfs⟩ := chk_of hk
  obtain ⟨e1, hat, ha0⟩ := hM.obj hfs hc
  have hrecv := va_recv hK.1 (va_P1 hat) hc (q0 := 0) rfl
  have hlen : ∀ sig, parseMethodDescriptor x2.desc = some sig → n = sig.parameters.length := fun sig hs => by
    have h2 := hdx
    rw [hs] at h2
    exact (Option.some.inj h2).symm
  refine v_ran (va_runU (As := As.map (tr g)) (rest := rest.map (tr g)) (b := ad g b) (C := C2) (owner := x2.cls) (x := x2) (n := n) ⟨hx, hb, hml, hown, hts⟩ sp ⟨⟨rfl, rfl, hR.1, hR.2.1, pay_in hts (gg1 hC.1), List.mem_cons_self⟩, hts _ hC.1, hts _ hC.2.1, hnh, hlen, hts _ hl, hts _ hsm, va_Decl.of (hts _ hi0) (hts _ hc0), hts _ hs, hts _ hi⟩ ⟨Pc_blind g h _, by rw [e1]; exact hrecv, fun U hU hW => ⟨rfl, by rw [hU]; exact hM, hK.moved hW, hX.go hF hU hW⟩⟩ rfl (by rw [List.length_map]; exact hn) hL.1 (by show (As.reverse ++ .ref b :: rest).map (tr g) = _; rw [List.map_append, List.map_reverse]; rfl) (lv_room (by rw [cat_tr]; exact hcat)) d ⟨hR.2.2.1, hR.2.2.2⟩) hF (fun H1 locs1 hM1 hF1 => k p e s m args below meth c C H1 locs1 la hM1 hF1 hL)
theorem v_callI {idx b : Nat} {As rest : List Value} (hl : Cond.methodLink y.cls idx y2 ∈ gtbl ∨ ∃ host, Cond.methodLinkNest y.cls idx y2 host ∈ nwt) (hy : y2.name = "<init>") (hi : Cond.instanceMethod y2 ∈ gtbl) (hC : LC y2 cc2 mL2 none n) (sp : Sp g y2 cc2 mL2 none rm h (.ref b :: As) h1 r) (hR : Rm R rm mL2 ce sl) (d : decode cc pc = .ok (.invokespecial idx, 3)) (hst : st = As.reverse ++ .ref b :: rest) (hn : As.length = n) (hcat : (rest.map fun v => v.category).sum ≤ 8) (k : V g y cc mL rt R Z (ce + rm.cells) (sl + rm.slots) h1 (pc + 3) ls (r.toList ++ rest)) : V g y cc mL rt R Z ce sl h pc ls st := by
  subst hst
  intro p e s m args below meth c C H locs la hM hF hL
  obtain ⟨hx, hb, hml, hr, hlc, hnme, hown, hts, hK, hX⟩ := id C
  have hpre : PreS s H (Pc g h (.ref b :: As)) (.ref (ad g b) :: As.map (tr g)) := ⟨Pc_blind g h _, fun U hU hW => ⟨rfl, by rw [hU]; exact hM, hK.moved hW, hX.go hF hU hW⟩⟩
  have hstk : (F0 m pc la ((As.reverse ++ .ref b :: rest).map (tr g))).stack = (As.map (tr g)).reverse ++ .ref (ad g b) :: rest.map (tr g) := by
    show (As.reverse ++ .ref b :: rest).map (tr g) = _
    rw [List.map_append, List.map_reverse]
    rfl
  rcases hl with hl | ⟨host, hl⟩
  · exact v_ran (va_runI (As := As.map (tr g)) (rest := rest.map (tr g)) (b := ad g b) (n := n) ⟨hx, hb, hml, hown, hts⟩ sp ⟨⟨rfl, rfl, hR.1, hR.2.1, pay_in hts (gg1 hC.1), List.mem_cons_self, hts _ hC.1, hts _ hC.2.1, hC.2.2.1, hC.len, hts _ hl⟩, hy, hts _ hi⟩ hpre rfl (by rw [List.length_map]; exact hn) hL.1 hstk (lv_room (by rw [cat_tr]; exact hcat)) d ⟨hR.2.2.1, hR.2.2.2⟩) hF (fun H1 locs1 hM1 hF1 => k p e s m args below meth c C H1 locs1 la hM1 hF1 hL)
  · exact v_ran (va_runIN (As := As.map (tr g)) (rest := rest.map (tr g)) (b := ad g b) (n := n) (host := host) ⟨hx, hb, hml, hown, hts⟩ sp ⟨⟨⟨rfl, rfl, hR.1, hR.2.1, pay_in hts (gg1 hC.1), List.mem_cons_self⟩, hts _ hC.1, hts _ hC.2.1, hC.2.2.1, hC.len, va_Nw.use rfl (hK.2.1 _ hl)⟩, hy, hts _ hi⟩ hpre rfl (by rw [List.length_map]; exact hn) hL.1 hstk (lv_room (by rw [cat_tr]; exact hcat)) d ⟨hR.2.2.1, hR.2.2.2⟩) hF (fun H1 locs1 hM1 hF1 => k p e s m args below meth c C H1 locs1 la hM1 hF1 hL)
/-- super.m(..) -/
theorem v_callSU {idx b t N : Nat} {C2 : String} {T : u_T} {As rest : List Value} {u : Unit} (hc : classes[t]? = some (C2, T, N)) (hl : Cond.methodLink y.cls idx y2 ∈ gtbl) (hsm : Cond.sameMethod y2.cls y2.cls y2.name y2.desc ∈ gtbl) (hsup : Cond.superclass y.cls y2.cls ∈ gtbl) (hi : Cond.instanceMethod y2 ∈ gtbl) (hno : y2.name ≠ "<init>") (hC : LC y2 cc2 mL2 rt2 n) (hk : chk h b t = some u) (sp : Sp g y2 cc2 mL2 rt2 rm h (.ref b :: As) h1 r) (hR : Rm R rm mL2 ce sl) (d : decode cc pc = .ok (.invokespecial idx, 3)) (hst : st = As.reverse ++ .ref b :: rest) (hn : As.length = n) (hcat : (rest.map fun v => v.category).sum ≤ 8) (k : V g y cc mL rt R Z (ce + rm.cells) (sl + rm.slots) h1 (pc + 3) ls (r.toList ++ rest)) : V g y cc mL rt R Z ce sl h pc ls st := by
  subst hst
  intro p e s m args below meth c C H locs la hM hF hL
  obtain ⟨hx, hb, hml, hr, hlc, hnme, hown, hts, hK, hX⟩ := id C
  obtain ⟨fs, hfs⟩ := chk_of hk
  obtain ⟨e1, hat, ha0⟩ := hM.obj hfs hc
  have hrecv := va_recv hK.1 (va_P1 hat) hc (q0 := 0) rfl
  refine v_ran (va_runSU (As := As.map (tr g)) (rest := rest.map (tr g)) (b := ad g b) (C := C2) (n := n) (hK.1.1 t _ hc).2 ⟨hx, hb, hml, hown, hts⟩ sp ⟨⟨rfl, rfl, hR.1, hR.2.1, pay_in hts (gg1 hC.1), List.mem_cons_self⟩, hts _ hl, hts _ hsm, hts _ hsup, hts _ hi, hts _ hC.2.1, hts _ hC.1, hno, hC.len⟩ ⟨Pc_blind g h _, by rw [e1]; exact hrecv, fun U hU hW => ⟨rfl, by rw [hU]; exact hM, hK.moved hW, hX.go hF hU hW⟩⟩ rfl (by rw [List.length_map]; exact hn) hL.1 (by show (As.reverse ++ .ref b :: rest).map (tr g) = _; rw [List.map_append, List.map_reverse]; rfl) (lv_room (by rw [cat_tr]; exact hcat)) d ⟨hR.2.2.1, hR.2.2.2⟩) hF (fun H1 locs1 hM1 hF1 => k p e s m args below meth c C H1 locs1 la hM1 hF1 hL)
/-! System.arraycopy of longs -/
def cpyL (l k : List Int64) (sp dp n : Nat) : List Int64 := (List.range k.length).map fun q => if dp ≤ q ∧ q < dp + n then l.getD (sp + (q - dp)) 0 else k.getD q 0
def acL (h : MH) (a : Nat) (i : Int32) (b : Nat) (j n : Int32) : Option MH := match h[a]? with
  | some (Sum.inr (Sum.inl l)) => match h[b]? with
    | some (Sum.inr (Sum.inl k)) => if i < 0 ∨ j < 0 ∨ n < 0 ∨ l.length < i.toNatClampNeg + n.toNatClampNeg ∨ k.length < j.toNatClampNeg + n.toNatClampNeg then none else some (h.set b (cL (cpyL l k i.toNatClampNeg j.toNatClampNeg n.toNatClampNeg)))
    | _ => none
  | _ => none
theorem acL_of {h h1 : MH} {a b : Nat} {i j n : Int32} (e : acL h a i b j n = some h1) : ∃ l k, h[a]? = some (cL l) ∧ h[b]? = some (cL k) ∧ ¬ i < 0 ∧ ¬ j < 0 ∧ ¬ n < 0 ∧ i.toNatClampNeg + n.toNatClampNeg ≤ l.length ∧ j.toNatClampNeg + n.toNatClampNeg ≤ k.length ∧ h1 = h.set b (cL (cpyL l k i.toNatClampNeg j.toNatClampNeg n.toNatClampNeg)) := by
  unfold acL at e
  split at e
  · rename_i l hl
    split at e
    · rename_i k hk
      split at e
      · cases e
      · rename_i hn
        cases e
        exact ⟨l, k, hl, hk, fun q => hn (Or.inl q), fun q => hn (Or.inr (Or.inl q)), fun q => hn (Or.inr (Or.inr (Or.inl q))), Nat.not_lt.mp fun q => hn (Or.inr (Or.inr (Or.inr (Or.inl q)))), Nat.not_lt.mp fun q => hn (Or.inr (Or.inr (Or.inr (Or.inr q)))), rfl⟩
    · cases e
  · cases e
theorem cpy_eq {l k : List Int64} {sp dp n : Nat} (h : dp + n ≤ k.length) : va_cpy (fun j => l.getD j 0) (fun j => k.getD j 0) sp dp n = fun j => (cpyL l k sp dp n).getD j 0 := by
  funext q
  unfold va_cpy cpyL
  rw [List.getD_eq_getElem?_getD (l := List.map _ _), List.getElem?_map]
  by_cases hq : q < k.length
  · rw [List.getElem?_range hq]
    rfl
  · rw [List.getElem?_eq_none (by rw [List.length_range]; omega), if_neg (by omega)]
    show k.getD q 0 = 0
    rw [List.getD_eq_getElem?_getD, List.getElem?_eq_none (by omega)]
    rfl
theorem v_acopy {idx a b : Nat} {i j n : Int32} {F : MH → Option α} (hl : Cond.methodLink y.cls idx arraycopyName ∈ gtbl) (hw1 : Cond.native arraycopyName ∈ gtbl) (hw2 : Cond.static arraycopyName ∈ gtbl) (hw3 : Cond.initialized "java/lang/System" ∈ gtbl) (hfr : 1 ≤ R.frames) (hlo : (st.map fun v => v.category).sum + (nativeFrameWords "java/lang/System" "arraycopy" 5 + 11) ≤ R.locals) (d : decode cc pc = .ok (.invokestatic idx, 3)) (hf : (acL h a i b j n).bind F = some o) (kk : ∀ h1, F h1 = some o → V g y cc mL rt R Z ce sl h1 (pc + 3) ls st) : V g y cc mL rt R Z ce sl h pc ls (.int n :: .int j :: .ref b :: .int i :: .ref a :: st) := by
  obtain ⟨h1, e0, hf⟩ := bnd hf
  have k1 := kk h1 hf
  obtain ⟨l, k, hla, hkb, i0, j0, n0, hb1, hb2, rfl⟩ := acL_of e0
  intro p e s m args below meth c C H locs la hM hF hL
  obtain ⟨hx, hb, hml, hr, hlc, hnme, hown, hts, hK, hX⟩ := id C
  obtain ⟨e1, hat1, ha0⟩ := hM.longs hla
  obtain ⟨e2, hat2, hb0⟩ := hM.longs hkb
  have nn : ∀ z : Int32, ¬ z < 0 → z.toInt = (z.toNatClampNeg : Int) := by
    intro z hz
    have hz0 : (0 : Int) ≤ z.toInt := by
      have := Int32.not_lt.mp hz
      simpa using Int32.le_iff_toInt_le.mp this
    show z.toInt = ((z.toInt.toNat : Nat) : Int)
    omega
  show W p g.1 e R s m args below meth c H locs ce sl (Z below args s) (F0 m pc la (.int n :: .int j :: .ref (ad g b) :: .int i :: .ref (ad g a) :: st.map (tr g)))
  rw [e1, e2]
  intro T hT X
  have hc0 : H[gB g + a]? = some (vp_cell (gA g 1) (l.length, .inr (.inl (fun q => l.getD q 0)))) := hat1
  have hc1 : H[gB g + b]? = some (vp_cell (gA g 1) (k.length, .inr (.inl (fun q => k.getD q 0)))) := hat2
  obtain ⟨-, k0, hk0, cm0, hkk0⟩ := hK.ar.2.1.1 l.length (fun q => .long (l.getD q 0))
  obtain ⟨-, k9, hk9, cm9, hkk9⟩ := hK.ar.2.1.1 k.length (fun q => .long (k.getD q 0))
  obtain ⟨vm', X', step⟩ := X.arraycopy hx hown (hts _ hl) (hts _ hw1) (hts _ hw2) (hts _ hw3) (src := gB g + a) (dst := gB g + b) (cs := vp_cell (gA g 1) (l.length, .inr (.inl (fun q => l.getD q 0)))) (cd := vp_cell (gA g 1) (k.length, .inr (.inl (fun q => k.getD q 0)))) (srcPos := i) (destPos := j) (n := n) (by rw [hT]; exact hc0) (by rw [hT]; exact hc1)
    (fun _ h => by cases h) (fun _ h => by cases h) (fun h => by cases h) (fun h => by cases h) hk0 hk9 hkk0 hkk9 (by decide) i0 j0 n0
    (by rw [nn i i0, nn n n0]; show ¬ _ > ((arrV (gA g 1) l.length (fun q => .long (l.getD q 0))).slots.size : Int); rw [arrV_size]; omega)
    (by rw [nn j j0, nn n n0]; show ¬ _ > ((arrV (gA g 1) k.length (fun q => .long (k.getD q 0))).slots.size : Int); rw [arrV_size]; omega)
    (fun vm₁ _ q hq => by
      have e9 : (vp_cell (gA g 1) (l.length, .inr (.inl (fun q => l.getD q 0)))).slots.getD (i.toNatClampNeg + q) .null = .long (l.getD (i.toNatClampNeg + q) 0) := by
        show (arrV (gA g 1) l.length (fun q => .long (l.getD q 0))).slots.getD _ _ = _
        rw [Array.getD_eq_getD_getElem?, arrV_read _ _ (by omega)]
        rfl
      refine ⟨?_, ?_⟩
      · rw [e9]
        rfl
      · rw [e9]
        exact trivial)
    (g := F0 m pc la (.int n :: .int j :: .ref (gB g + b) :: .int i :: .ref (gB g + a) :: st.map (tr g))) rfl (by show la.size = c.maxLocals; rw [hml]; exact hL.1) (rest := st.map (tr g)) rfl (by rw [hb]; exact d) hfr (by show 2 * 0 + _ + _ ≤ _; rw [cat_tr]; omega)
  have e3 : copied (vp_cell (gA g 1) (l.length, .inr (.inl (fun q => l.getD q 0)))) (vp_cell (gA g 1) (k.length, .inr (.inl (fun q => k.getD q 0)))) i j n = vp_cell (gA g 1) (k.length, .inr (.inl (va_cpy (fun q => l.getD q 0) (fun q => k.getD q 0) i.toNatClampNeg j.toNatClampNeg n.toNatClampNeg))) := va_copied (fun z => .long z) (gA g 1) (gA g 1) (n0 := l.length) (n1 := k.length) (fun q => l.getD q 0) (fun q => k.getD q 0) hb1
  rw [e3, cpy_eq hb2] at X' step
  have hlt : gB g + b < H.size := (Array.getElem?_eq_some_iff.mp hc1).1
  have f3 : ∀ q : Nat, q ≠ gB g + b → (H.setIfInBounds (gB g + b) (vp_cell (gA g 1) (k.length, .inr (.inl (fun q => (cpyL l k i.toNatClampNeg j.toNatClampNeg n.toNatClampNeg).getD q 0)))))[q]? = H[q]? := fun q hq => by simp [Array.getElem?_setIfInBounds, Ne.symm hq]
  have key : ∀ locs1 : List Loc, (∀ q ∈ locs1, gB g < q.base) → W p g.1 e R s m args below meth c (H.setIfInBounds (gB g + b) (vp_cell (gA g 1) (k.length, .inr (.inl (fun q => (cpyL l k i.toNatClampNeg j.toNatClampNeg n.toNatClampNeg).getD q 0))))) locs1 ce sl (Z below args s) (F0 m (pc + 3) la (st.map (tr g))) := fun locs1 hl1 => k1 p e s m args below meth c C _ locs1 la (hM.set hb0 (by simp) f3 (by
    show (H.setIfInBounds (gB g + b) _)[gB g + b]? = some (vp_cell (gA g 1) ((cpyL l k i.toNatClampNeg j.toNatClampNeg n.toNatClampNeg).length, .inr (.inl (fun q => (cpyL l k i.toNatClampNeg j.toNatClampNeg n.toNatClampNeg).getD q 0))))
    rw [show (cpyL l k i.toNatClampNeg j.toNatClampNeg n.toNatClampNeg).length = k.length by unfold cpyL; simp]
    simp [Array.getElem?_setIfInBounds, hlt])) ⟨fun q hq => by rw [f3 q (by omega)]; exact hF.1 q hq, hl1⟩ hL
  obtain ⟨t, a1, b1⟩ := key _ (by
    intro q hq
    rcases List.mem_append.mp hq with h | h
    · exact hF.2 q h
    · obtain ⟨z, -, hz⟩ := List.mem_map.mp h
      rw [← hz]
      show gB g < gB g + b
      omega) _ (by rw [← hT]; rfl) X'
  exact ⟨t, step t a1, b1⟩
end VC7

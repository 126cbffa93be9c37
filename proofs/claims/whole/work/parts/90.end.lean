theorem cls_known {args : Array Value} {s : State} (hts : ∀ w ∈ gtbl, w.before args s = true) : ∀ (k : Nat) (q : vw_C), classes[k]? = some q → ∃ (cC : ClassId) (iS : Nat → Nat), u_Kn s q.1 q.2.1 q.2.2 cC iS
  | 0, q, hq => by cases hq; exact u_known hts inFo (hts _ (gw (w := Cond.instantiable RFo 9) 90 (by decide +kernel) (by decide +kernel)))
  | 1, q, hq => by cases hq; exact u_known hts inKe (hts _ (gw (w := Cond.instantiable RKe 4) 479 (by decide +kernel) (by decide +kernel)))
  | 2, q, hq => by cases hq; exact u_known hts inLo (hts _ (gw (w := Cond.instantiable RLo 4) 490 (by decide +kernel) (by decide +kernel)))
  | 3, q, hq => by cases hq; exact u_known hts inMo (hts _ (gw (w := Cond.instantiable RMo 1) 74 (by decide +kernel) (by decide +kernel)))
  | 4, q, hq => by cases hq; exact u_known hts inPl (hts _ (gw (w := Cond.instantiable RPl 4) 443 (by decide +kernel) (by decide +kernel)))
  | 5, q, hq => by cases hq; exact u_known hts inSh (hts _ (gw (w := Cond.instantiable RSh 3) 194 (by decide +kernel) (by decide +kernel)))
  | 6, q, hq => by cases hq; exact u_known hts inSt (hts _ (gw (w := Cond.instantiable RSt 3) 226 (by decide +kernel) (by decide +kernel)))
  | 7, q, hq => by cases hq; exact u_known hts inSg (hts _ (gw (w := Cond.instantiable RSg 2) 355 (by decide +kernel) (by decide +kernel)))
  | 8, q, hq => by cases hq; exact u_known hts inTa (hts _ (gw (w := Cond.instantiable RTa 4) 497 (by decide +kernel) (by decide +kernel)))
  | 9, q, hq => by cases hq; exact u_known hts inTr (hts _ (gw (w := Cond.instantiable RTr 2) 210 (by decide +kernel) (by decide +kernel)))
  | 10, q, hq => by cases hq; exact u_known hts inWe (hts _ (gw (w := Cond.instantiable RWe 4) 174 (by decide +kernel) (by decide +kernel)))
  | 11, q, hq => by cases hq; exact u_known hts inX (hts _ (gw (w := Cond.instantiable RX 9) 66 (by decide +kernel) (by decide +kernel)))
  | 12, q, hq => by cases hq; exact u_known hts inM (hts _ (gw (w := Cond.instantiable RM 20) 712 (by decide +kernel) (by decide +kernel)))
  | k + 13, q, hq => by simp [classes] at hq
theorem arr_known {U : State} {cA : ClassId} {kA : Class} {comp : ClassId} {ty : FieldType} (h2 : U.vm.classes[cA]? = some kA) (h3 : kA.kind = .array comp ty) : ArrOfT U cA ty := fun n z => ⟨fun k h => (by cases h), kA, h2, comp, h3⟩
theorem whole_start {p : Program} {e : Env} {s : State} {m : MethodId} {below : List Frame} {meth : Method} {c : Code} (l : Launch) (hflags : l.flags = flags0) {b L : Nat} {xs : Nat → Int32} (hL : L ≤ 3073) (C0 : lw_At p s m meth c b L xs) : W p l e room_1 s m #[Value.ref b] below meth c s.heap [] 0 0 (lw_Z below #[Value.ref b] s) (entryFrame m ([Value.ref b] : List Value).toArray 4) := by
  obtain ⟨hx, hb, hr, hml, hown, hts0, hX, hbl, hlocks, hgv, hnm⟩ := id C0
  have hts : ∀ w ∈ gtbl, w.before #[Value.ref b] s = true := fun w hw => hts0 w (List.mem_filter.mp hw).1
  obtain ⟨cI, kI, cmI, i1, i2, i3⟩ := Cond.arrayClass_spec (hts0 (.arrayClass .int) (List.mem_of_getElem? (i := 172) (by decide +kernel)))
  obtain ⟨cL, kL, cmL, l1, l2, l3⟩ := Cond.arrayClass_spec (hts0 (.arrayClass .long) (List.mem_of_getElem? (i := 192) (by decide +kernel)))
  have hA2 := hts0 (.arrayOver (.array .int)) (List.mem_of_getElem? (i := 96) (by decide +kernel))
  have hA3 := hts0 (.arrayOver (.object "TreeSteps$Sheet")) (List.mem_of_getElem? (i := 225) (by decide +kernel))
  have hA4 := hts0 (.arrayOver (.object "TreeSteps$Table")) (List.mem_of_getElem? (i := 245) (by decide +kernel))
  obtain ⟨cm2, c2, k2, a21, -, a22, a23, a24⟩ := arrayOverA_spec hA2
  obtain ⟨cm3, c3, k3, a31, -, a32, a33, a34⟩ := Cond.arrayOver_spec hA3
  obtain ⟨cm4, c4, k4, a41, -, a42, a43, a44⟩ := Cond.arrayOver_spec hA4
  have ex : ∀ k : Nat, ∃ (cC : ClassId) (iS : Nat → Nat), ∀ q, classes[k]? = some q → u_Kn s q.1 q.2.1 q.2.2 cC iS := by
    intro k
    by_cases hk : ∃ q, classes[k]? = some q
    · obtain ⟨q, hq⟩ := hk
      obtain ⟨cC, iS, h⟩ := cls_known hts k q hq
      exact ⟨cC, iS, fun q' hq' => by cases hq.symm.trans hq'; exact h⟩
    · exact ⟨0, fun _ => 0, fun q hq => absurd ⟨q, hq⟩ hk⟩
  have hg : ∃ g : Gh, g.1 = l ∧ gb g = b ∧ gX g = (List.range L).map xs ∧ gB g + 1 = s.heap.size ∧ va_K (gD g) classes (tysL g) s := by
    refine ⟨(l, (fun k => Classical.choose (ex k), fun k => Classical.choose (Classical.choose_spec (ex k))), (fun t => if t = 0 then cI else if t = 1 then cL else if t = 2 then c2 else if t = 3 then c3 else c4), (b, (List.range L).map xs), s.heap.size - 1), rfl, rfl, rfl, by show s.heap.size - 1 + 1 = _; omega, fun k q hq => Classical.choose_spec (Classical.choose_spec (ex k)) q hq, ?_⟩
    intro k q hq
    match k, hq with
    | 0, hq => cases hq; exact ⟨arr_known i2 i3, i1⟩
    | 1, hq => cases hq; exact ⟨arr_known l2 l3, l1⟩
    | 2, hq => cases hq; exact ⟨arr_known a22 a23, a24⟩
    | 3, hq => cases hq; exact ⟨arr_known a32 a33, k3, cm3, a32, a33, a31, a34⟩
    | 4, hq => cases hq; exact ⟨arr_known a42 a43, k4, cm4, a42, a43, a41, a44⟩
    | k + 5, hq => simp at hq
  obtain ⟨g, rfl, rfl, hgX, hgB, hKK⟩ := hg
  have hs := flat_of_before _ hgv
  have hK : KK g s := by
    refine ⟨hKK, fun w hw => ?_, va_AO.of hA3, va_AO.of hA4, hA2, fun q hq => ?_⟩
    · have hm := List.mem_filter.mp hw
      have hb := hts0 w hm.1
      have hg2 := hm.2
      cases w <;> first | exact va_Nw.of rfl hb | cases hg2
    · have hm : Cond.not (.castable q.1 q.2) ∈ flatC (Jvm.Cond.and given_1 narrow_1) := by
        have hall : ∀ q ∈ ncs, Cond.not (.castable q.1 q.2) ∈ flatC (Jvm.Cond.and given_1 narrow_1) := by decide +kernel
        exact hall q hq
      exact va_Nc.of (hs _ hm)
  have hXl : (gX g).length = L := by rw [hgX]; simp
  have hSX : SX g s s.heap := by
    refine ⟨by omega, ?_⟩
    obtain ⟨scr, h1, h2, h3, h4, h5⟩ := hX
    refine ⟨scr, h1, h2, h3, by rw [h4, hXl], fun j hj => ?_⟩
    rw [hXl] at hj
    rw [h5 j hj]
    show _ = some (Value.int ((gX g).getD j 0))
    rw [hgX, List.getD_eq_getElem?_getD, List.getElem?_map, List.getElem?_range hj]
    rfl
  obtain ⟨n, o, hn, hf⟩ := law_ok (gX g) (by rw [hXl]; exact hL)
  have hM : MR g s.heap [cO 99 []] := by
    refine ⟨by rw [← hgB]; rfl, rfl, hSX.1, fun a cc ha h => ?_⟩
    match a, ha, h with
    | a + 1, _, h => simp at h
  have k1 := tL_law (g := g) rfl n hn [cO 99 []] hf p e s m #[Value.ref (gb g)] below meth c ⟨hx, hb, hml, hr, hlocks, hnm, hown, hts, hK, hSX⟩ s.heap [] _ hM ⟨fun _ _ => rfl, fun _ h => by cases h⟩ (LV.ent (As := [.ref 0]) (mL := 4) (Nat.le_of_ble_eq_true rfl))
  rw [lg_entry_eq]
  intro T hT Xs
  obtain ⟨t, a1, b1⟩ := k1 T hT Xs
  exact ⟨t, a1, b1 hgB rfl⟩
-- ===== YOUR PART ENDS =====
set_option maxHeartbeats 4000000 in
theorem lw_walk (l : Launch) (hflags : l.flags = flags0) (b : Addr) (xs : List Int32) : MetFree l x (headSpec (Jvm.Cond.code x code maxLocals ret :: tables_1) room_1) (lw_P b xs) (fun _ _ _ _ _ => True) lw_Q := by
  refine MetFree.of_bodyS (code := code) (maxLocals := maxLocals) (ret := ret) (by decide) ?_ ?_
  · intro args s m h hn
    obtain ⟨meth, c, h1, h2, h3, h4, h5, h6, -, -⟩ := Cond.code_spec hn (atoms_spec (ws := Jvm.Cond.code x code maxLocals ret :: tables_1) h _ List.mem_cons_self)
    exact ⟨meth, c, h1, h2, h3, h4, h5, h6⟩
  · intro p e s m args below meth c s₁ B hml0 hP _
    obtain ⟨rfl, hx, hbd, hgv⟩ := hP
    obtain ⟨scr, harrAt, hlist, hof, hsmall⟩ := hx
    obtain ⟨hcb, hkn, -, -⟩ := State.arrayAt?_spec harrAt
    have hown : s.vm.findClass R_law = some m.cls := findClass_of_methodNamed B.named
    have hts0 : ∀ c ∈ (Jvm.Cond.code x code maxLocals ret :: tables_1), c.before #[Value.ref b] s = true := atoms_spec (ws := Jvm.Cond.code x code maxLocals ret :: tables_1) B.pre
    have hts : ∀ w ∈ lw_tbl, w.before #[Value.ref b] s = true := k2_hts_sels lw_privs (fun w hw => hts0 w (List.mem_cons_of_mem _ hw)) lw_privs_ok
    have hml : c.maxLocals = 4 := B.maxLocals_eq (hts0 _ List.mem_cons_self)
    have X₀ : Stand p l e room_1 s m #[Value.ref b] below meth c s₁ [] 0 0 := Stand.of_body B
    have hh0 : s₁.heap = s.heap := by rw [B.state]; rfl
    have hsz : scr.slots.size = xs.length := by rw [← Array.length_toList, hlist, List.length_map]
    have hval : ∀ j : Nat, j < xs.length → scr.slots[j]? = some (.int (xs.getD j 0)) := fun j hj => by
      rw [← Array.getElem?_toList, hlist]
      simp [hj]
    have hbl : b < s.heap.size := (Array.getElem?_eq_some_iff.mp hcb).1
    have hX : va_X b xs.length (fun j => xs.getD j 0) s s.heap := ⟨scr, hcb, hof, hkn, hsz, hval⟩
    have K : W p l e room_1 s m #[Value.ref b] below meth c s₁.heap [] 0 0 (lw_Z below #[Value.ref b] s) (entryFrame m ([Value.ref b] : List Value).toArray 4) := by
      rw [hh0]
      exact whole_start l hflags hbd ⟨B.exec, B.bytes, B.returns, hml, hown, hts, hX, hbl, B.notSynchronized, hgv, (name_of_methodNamed B.named B.method).1⟩
    obtain ⟨t, a1, o, b1, b2, b3⟩ := K s₁ rfl X₀
    exact ⟨t, o, a1, b1, b2, b3⟩
theorem lw_pre_spec {args : Array Value} {s : State} (h : (Jvm.Cond.and given_1 narrow_1).before args s = true) (hr : rest_1_c.before args s = true) : ∃ (b : Addr) (xs : List Int32), lw_P b xs args s := by
  have hs := flat_of_before _ h
  have hq := flat_of_before _ hr
  have hc : (Cond.count 1).before args s = true := hs _ (by decide +kernel)
  have harr : (Cond.arrayOf (.arg 0) .int).before args s = true := hs _ (by decide +kernel)
  have hle : (Cond.le (.length (.arg 0)) (.int 3073)).before args s = true := hs _ (by decide +kernel)
  have hlen : (Cond.isInt (.length (.arg 0))).before args s = true := hq _ (by decide +kernel)
  have hall : (Cond.all (.arg 0) (.isInt (.elem (.arg 0) (.index 0)))).before args s = true := hq _ (by decide +kernel)
  obtain ⟨b, xs, hb, hx⟩ := State.ints_of_pre rfl harr hlen hall
  have hsm : xs.length < 2 ^ 31 := hx.choose_spec.2.2.2
  have hev : (Term.length (.arg 0)).eval args s none [] s = some (.int xs.length.toInt32) := hx.length_eval hb
  have hv := Cond.le_ints hev (show (Term.int 3073).eval args s none [] s = some (.int 3073) from rfl)
  have hd : xs.length.toInt32 ≤ 3073 := by
    simpa [Cond.before, Cond.holds, hv] using hle
  have hN : xs.length ≤ 3073 := (Int32.ofNat_le_ofNat hsm (by decide)).mp (show Int32.ofNat xs.length ≤ Int32.ofNat 3073 from hd)
  exact ⟨b, xs, Cond.one_arg hc (show args[0]? = some (.ref b) from hb), hx, hN, h⟩
theorem lw_comes (l : Launch) (hflags : l.flags = flags0) : Comes l x (Jvm.Cond.code x code maxLocals ret :: tables_1) room_1 (fun tb e args s => Calls_1 tb e args s ∧ rest_1 tb e args s ∧ Pre_1 tb e args s)
    (fun _ _ args s o t => lw_Q args s o t) := by
  intro p e ha hc hk s m args below hf hfit hheap happ hpre
  obtain ⟨b, xs, hP⟩ := lw_pre_spec hpre.2.2 hpre.2.1
  obtain ⟨k, o, h1, h2, h3, hQ⟩ := lw_walk l hflags b xs p e ha hc hk s m args below hf ((Spec.applies_iff_loose hf).mp happ).1 hP trivial
  exact ⟨k, o, h1, h2, h3, hQ⟩
theorem lw_frame {s t : State} {o : Outcome} {args : Array Value} (h : Framed s o t [] 600000 7302250) :
    Framed s o t (fieldLocs frame_1_writes args s ++ arrayLocs frame_1_arrays args s ++ staticLocs frame_1_statics s) 600000 7302250 := h
theorem lw_limb (L : Cond) (hL : ∀ (args : Array Value) (s t : State), L.after args s (.returned (some (.int 1))) t = true) :
    ArmFor flags0 classFile x code maxLocals ret World_1 tables_1 room_1 Calls_1 rest_1 Pre_1
      (fun tb e a s o t => postC L tb e a s o t ∧ Framed s o t (fieldLocs frame_1_writes a s ++ arrayLocs frame_1_arrays a s ++ staticLocs frame_1_statics s) 600000 7302250) := by
  intro l hflags _ _ p e ha hc hk s m args below hf hfit hheap happ hpre
  obtain ⟨k, o, h1, h2, h3, rfl, hF⟩ := lw_comes l hflags p e ha hc hk s m args below hf hfit hheap happ hpre
  exact ⟨k, _, h1, h2, h3, hL args s _, lw_frame hF⟩
theorem i_vc : Claimed_1_1 ∧ Claimed_1_2 := ⟨lw_limb limb_1_1 (fun args s t => by simp [limb_1_1, Cond.after, Cond.holds, Cond.value]), lw_limb limb_1_2 (fun args s t => Cond.after_iff.mpr (by
  first | (rw [show limb_1_2 = Cond.eq .result (.int 1) from rfl, Cond.eq_ints (x := 1) (y := 1) rfl rfl]; simp; done) | (simp [limb_1_2, Cond.value, Term.eval]; done)))⟩

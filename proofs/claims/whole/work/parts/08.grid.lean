/-! new int[n][k] -/
def naM {α : Type} (h : MH) (N K : Nat) (F : MH → Nat → Option α) : Option α := F (h ++ (cR 2 ((List.range N).map fun i => some (h.length + 1 + i)) :: List.replicate N (cI (List.replicate K 0)))) h.length
theorem outer_eq (c : ClassId) (N h0 : Nat) : ∀ i : Nat, Jvm.Free.Multi.outerC c N h0 i = arrV c N (fun j => va_rf (if j < i then some (h0 + 1 + j) else none))
  | 0 => by
    show ({ cls := c, slots := Array.replicate N .null, vm := .none } : Cell) = _
    rw [arrV_new]
    refine congrArg (arrV c N) (funext fun j => ?_)
    simp [va_rf]
  | i + 1 => by
    show (Jvm.Free.Multi.outerC c N h0 i).setSlot i (.ref (h0 + 1 + i)) = _
    rw [outer_eq c N h0 i, arrV_store]
    refine congrArg (arrV c N) (funext fun j => ?_)
    by_cases e : j = i
    · subst e
      simp [updV, va_rf]
    · by_cases h : j < i
      · simp [updV, e, h, Nat.lt_succ_of_lt h]
      · simp [updV, e, h, show ¬ j < i + 1 by omega]
theorem v_mna {g : Gh} {y : MethodName} {cc : ByteArray} {mL : Nat} {rt : Option FieldType} {R : Room} {Z : Zt} {ce sl : Nat} {h : MH} {pc : Nat} {ls : List (Option Value)} {st : List Value} {α : Type} {o : α} {idx N K : Nat} {n k : Int32} {F : MH → Nat → Option α} (d : decode cc pc = .ok (.multianewarray idx 2, 4)) (hw : Cond.classLink y.cls idx "[[I" ∈ gtbl) (hw2 : Cond.arrayClass .int ∈ gtbl) (hn : ¬ n < 0) (hk : ¬ k < 0) (hN : n.toNatClampNeg = N) (hKk : k.toNatClampNeg = K) (hb1 : N ≤ 1000) (hb2 : K ≤ 1000) (hce : ce + (1 + N) ≤ R.cells) (hsl : sl + (N + N * K) ≤ R.slots) (hf : naM h N K F = some o) (kk : ∀ h1 a, F h1 a = some o → V g y cc mL rt R Z (ce + 1 + N) (sl + N + N * K) h1 (pc + 4) ls (.ref a :: st)) : V g y cc mL rt R Z ce sl h pc ls (.int k :: .int n :: st) := by
  have k1 := kk _ _ hf
  subst hN
  subst hKk
  intro p e s m args below meth c C H locs la hM hF hL
  obtain ⟨hx, hb, hml, hr, hlc, hnme, hown, hts, hK, hX⟩ := id C
  intro T hT X
  obtain ⟨vm₁, cA, comp, -, fA, fC, -, -, X', step⟩ := X.multianewarray2F hx hown (hts _ hw) hK.2.2.2.2.1 (hts _ hw2) (g := F0 m pc la (.int k :: .int n :: st.map (tr g))) rfl (by rw [hb]; exact d) rfl hn hk (by omega) (by show k.toNatClampNeg * 4 ≤ _; omega) (by omega) rfl rfl hce hsl
  have eC : comp = gA g 0 := Option.some.inj (fC.symm.trans hK.ar.1.2)
  have eA : cA = gA g 2 := Option.some.inj (fA.symm.trans hK.ar.2.2.2)
  subst eC
  subst eA
  generalize hFl : Jvm.Free.Multi.fill (T.setVm vm₁) (gA g 2) (gA g 0) n.toNatClampNeg k.toNatClampNeg (defaultValue .int) n.toNatClampNeg = FF at X' step
  have hTh : (T.setVm vm₁).heap = H := hT
  obtain ⟨f1, f2, -, -⟩ := Jvm.Free.Multi.fill_facts (T.setVm vm₁) (gA g 2) (gA g 0) n.toNatClampNeg k.toNatClampNeg (defaultValue .int) n.toNatClampNeg
  rw [hFl, hTh] at f1 f2
  have hold : ∀ q : Nat, q < H.size → FF.heap[q]? = H[q]? := fun q hq => by
    have := Jvm.Free.Multi.fill_old (T.setVm vm₁) (gA g 2) (gA g 0) n.toNatClampNeg k.toNatClampNeg (defaultValue .int) (a := q) (by rw [hTh]; exact hq) n.toNatClampNeg
    rw [hFl, hTh] at this
    exact this
  have hrow : ∀ j : Nat, j < n.toNatClampNeg → FF.heap[H.size + 1 + j]? = some (vp_cell (gA g 0) ((List.replicate k.toNatClampNeg (0 : Int32)).length, .inl (fun q => (List.replicate k.toNatClampNeg (0 : Int32)).getD q 0))) := fun j hj => by
    have := Jvm.Free.Multi.fill_inner (T.setVm vm₁) (gA g 2) (gA g 0) n.toNatClampNeg k.toNatClampNeg (defaultValue .int) n.toNatClampNeg j hj
    rw [hFl, hTh] at this
    rw [this, vp_cell_i, List.length_replicate]
    show some ({ cls := gA g 0, slots := Array.replicate k.toNatClampNeg (Value.int 0), vm := .none } : Cell) = _
    rw [arrV_new]
    refine congrArg (fun f => some (arrV (gA g 0) k.toNatClampNeg f)) (funext fun j => ?_)
    show Value.int 0 = Value.int ((List.replicate k.toNatClampNeg (0 : Int32)).getD j 0)
    rw [List.getD_eq_getElem?_getD, List.getElem?_replicate]
    split <;> rfl
  have hsz := hM.1
  have hlen := hM.len
  have hM2 : MR g FF.heap (h ++ (cR 2 ((List.range n.toNatClampNeg).map fun i => some (h.length + 1 + i)) :: List.replicate n.toNatClampNeg (cI (List.replicate k.toNatClampNeg 0)))) := by
    refine ⟨by rw [f1, hsz, List.length_append, List.length_cons, List.length_replicate]; omega, by rw [List.getElem?_append_left hlen]; exact hM.2.1, hM.2.2.1, fun b cc2 hb0 hd => ?_⟩
    by_cases e1 : b < h.length
    · rw [List.getElem?_append_left e1] at hd
      exact (hM.2.2.2 b cc2 hb0 hd).kept (hold _ (by simp; omega))
    · rw [List.getElem?_append_right (by omega)] at hd
      by_cases e2 : b = h.length
      · subst e2
        rw [Nat.sub_self, List.getElem?_cons_zero] at hd
        cases hd
        show FF.heap[gB g + h.length]? = some (vp_cell (gA g 2) (((List.range n.toNatClampNeg).map fun i => some (h.length + 1 + i)).length, .inr (.inr (.inr (.inr (fun j => (((List.range n.toNatClampNeg).map fun i => some (h.length + 1 + i)).getD j none).map (ad g)))))))
        rw [← hsz, f2, outer_eq, vp_cell_q, List.length_map, List.length_range]
        refine congrArg (fun f => some (arrV (gA g 2) n.toNatClampNeg f)) (funext fun j => ?_)
        rw [List.getD_eq_getElem?_getD, List.getElem?_map]
        by_cases hj : j < n.toNatClampNeg
        · rw [List.getElem?_range hj, if_pos hj]
          show va_rf (some _) = va_rf (some (ad g (h.length + 1 + j)))
          rw [ad_pos (by omega), hsz]
          congr 2
          omega
        · rw [List.getElem?_eq_none (by rw [List.length_range]; omega), if_neg hj]
          rfl
      · obtain ⟨j, hj⟩ : ∃ j, b = h.length + 1 + j := ⟨b - h.length - 1, by omega⟩
        subst hj
        rw [show h.length + 1 + j - h.length = j + 1 by omega, List.getElem?_cons_succ, List.getElem?_replicate] at hd
        split at hd
        · rename_i hjn
          cases hd
          show FF.heap[gB g + (h.length + 1 + j)]? = _
          rw [show gB g + (h.length + 1 + j) = FF.heap.size - 1 - n.toNatClampNeg + 1 + j by rw [f1]; omega, show FF.heap.size - 1 - n.toNatClampNeg = H.size by rw [f1]; omega]
          exact hrow j hjn
        · cases hd
  have k2 := k1 p e s m args below meth c C FF.heap locs la hM2 ⟨fun q hq => by rw [hold q (by rw [hsz]; omega)]; exact hF.1 q hq, hF.2⟩ hL
  have k3 : W p g.1 e R s m args below meth c FF.heap locs (ce + 1 + n.toNatClampNeg) (sl + n.toNatClampNeg + n.toNatClampNeg * k.toNatClampNeg) (Z below args s) (F0 m (pc + 4) la (.ref (ad g h.length) :: st.map (tr g))) := k2
  rw [ad_pos hlen, ← hsz] at k3
  obtain ⟨t, a1, b1⟩ := k3 FF rfl X'
  refine ⟨t, step t ?_, b1⟩
  have e9 : T.heap.size = H.size := by rw [hT]
  rw [e9]
  exact a1

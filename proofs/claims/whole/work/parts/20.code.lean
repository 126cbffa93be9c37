abbrev rmMo_fitting : Room := { frames := 0, cells := 0, slots := 0, locals := 0 }
def bMo_fitting_22 (n : Nat) (k22 : (MH × Int32 × Int32) → Option (MH × Int32)) (h : MH) (x0 : Int32) (x1 : Int32) : Option (MH × Int32) := (if x0.toInt64 < (x1.toInt64 * x1.toInt64) then (retZ h (1:Int32)) else (nzI x1 (if (irm x0 x1) = (0:Int32) then (retZ h (0:Int32)) else (k22 (h, x0, (x1 + (2:Int32)))))))
def fMo_fitting_22 (n : Nat) (h : MH) (x0 : Int32) (x1 : Int32) : Option (MH × Int32) := lp (fun n k s => bMo_fitting_22 n k s.1 s.2.1 s.2.2) n (h, x0, x1)
set_option maxRecDepth 20000 in
set_option maxHeartbeats 4000000 in
theorem tMo_fitting_22 {g : Gh} {h' : MH} {r' : Int32} (n : Nat) (h : MH) (x0 : Int32) (x1 : Int32) (hf : fMo_fitting_22 n h x0 x1 = some (h', r')) : V g yMo_fitting cMo_fitting 2 (some .boolean) rmMo_fitting (ZQ g rmMo_fitting h' (some (.int r'))) 0 0 h 22 [some (.int x0), some (.int x1)] [] := by
  unfold fMo_fitting_22 at hf
  refine lp_ind (P := fun s => V g yMo_fitting cMo_fitting 2 (some .boolean) rmMo_fitting (ZQ g rmMo_fitting h' (some (.int r'))) 0 0 s.1 22 [some (.int s.2.1), some (.int s.2.2)] []) (fun n k22 hk22 s hf => ?_) n (h, x0, x1) hf
  obtain ⟨h, x0, x1⟩ := s
  replace hk22 : ∀ (h : MH) (x0 : Int32) (x1 : Int32), k22 (h, x0, x1) = some (h', r') → V g yMo_fitting cMo_fitting 2 (some .boolean) rmMo_fitting (ZQ g rmMo_fitting h' (some (.int r'))) 0 0 h 22 [some (.int x0), some (.int x1)] [] := fun h x0 x1 => hk22 (h, x0, x1)
  replace hf : bMo_fitting_22 n k22 h x0 x1 = some (h', r') := hf
  change V g yMo_fitting cMo_fitting 2 (some .boolean) rmMo_fitting (ZQ g rmMo_fitting h' (some (.int r'))) 0 0 h 22 [some (.int x0), some (.int x1)] []
  unfold bMo_fitting_22 at hf
  refine v_iload_n (i := 1) (pc := 22) dMo_fitting_22 rfl rfl ?_
  refine v_i2l (pc := 23) dMo_fitting_23 ?_
  refine v_iload_n (i := 1) (pc := 24) dMo_fitting_24 rfl rfl ?_
  refine v_i2l (pc := 25) dMo_fitting_25 ?_
  refine v_lmul (pc := 26) dMo_fitting_26 ?_
  refine v_iload_n (i := 0) (pc := 27) dMo_fitting_27 rfl rfl ?_
  refine v_i2l (pc := 28) dMo_fitting_28 ?_
  refine v_lcmp_gt (pc := 29) (tgt := 47) dMo_fitting_29 dMo_fitting_30 rfl hf (fun hf => ?_) (fun hf => ?_)
  · refine v_iconst (pc := 47) (1:Int32) dMo_fitting_47 rfl ?_
    exact v_zret (pc := 48) dMo_fitting_48 (by decide) (by decide) hf
  refine v_iload_n (i := 0) (pc := 33) dMo_fitting_33 rfl rfl ?_
  refine v_iload_n (i := 1) (pc := 34) dMo_fitting_34 rfl rfl ?_
  obtain ⟨z1, hf⟩ := nzI_of hf
  refine v_irem (pc := 35) dMo_fitting_35 z1 ?_
  refine v_if_ne (pc := 36) (tgt := 41) dMo_fitting_36 rfl hf (fun hf => ?_) (fun hf => ?_)
  · refine v_iconst (pc := 39) (0:Int32) dMo_fitting_39 rfl ?_
    exact v_zret (pc := 40) dMo_fitting_40 (by decide) (by decide) hf
  refine v_iinc (pc := 41) (v := (x1 + (2:Int32))) (ls' := [some (.int x0), some (.int (x1 + (2:Int32)))]) dMo_fitting_41 rfl rfl (by decide) rfl ?_
  refine v_goto (pc := 44) (tgt := 22) dMo_fitting_44 rfl ?_
  refine v_wk (ls' := [some (.int x0), some (.int (x1 + (2:Int32)))]) ⟨rfl, rfl, trivial⟩ ?_
  exact hk22 h x0 (x1 + (2:Int32)) hf
def fMo_fitting (n : Nat) (h : MH) (i_0 : Int32) : Option (MH × Int32) := (if i_0 < (101:Int32) then (retZ h (0:Int32)) else (if (2000000000:Int32) < i_0 then (retZ h (0:Int32)) else (if (irm i_0 (2:Int32)) = (0:Int32) then (retZ h (0:Int32)) else (fMo_fitting_22 n h i_0 (3:Int32)))))
set_option maxRecDepth 20000 in
set_option maxHeartbeats 4000000 in
theorem sMo_fitting {g : Gh} {h' : MH} {r' : Int32} {n : Nat} {h : MH} {i_0 : Int32} (hf : fMo_fitting n h i_0 = some (h', r')) : Sp g yMo_fitting cMo_fitting 2 (some .boolean) rmMo_fitting h [.int i_0] h' (some (.int r')) := by
  refine sp_of (by decide) (Nat.le_of_ble_eq_true rfl) ?_
  change V g yMo_fitting cMo_fitting 2 (some .boolean) rmMo_fitting (ZQ g rmMo_fitting h' (some (.int r'))) 0 0 h 0 [some (.int i_0), none] []
  unfold fMo_fitting at hf
  refine v_iload_n (i := 0) (pc := 0) dMo_fitting_0 rfl rfl ?_
  refine v_bipush (pc := 1) (101:Int32) dMo_fitting_1 rfl ?_
  refine v_icmp_lt (pc := 3) (tgt := 18) dMo_fitting_3 rfl hf (fun hf => ?_) (fun hf => ?_)
  · refine v_iconst (pc := 18) (0:Int32) dMo_fitting_18 rfl ?_
    exact v_zret (pc := 19) dMo_fitting_19 (by decide) (by decide) hf
  refine v_iload_n (i := 0) (pc := 6) dMo_fitting_6 rfl rfl ?_
  refine v_ldc (pc := 7) dMo_fitting_7 kiMo_19 ?_
  refine v_icmp_gt (pc := 9) (tgt := 18) dMo_fitting_9 rfl hf (fun hf => ?_) (fun hf => ?_)
  · refine v_iconst (pc := 18) (0:Int32) dMo_fitting_18 rfl ?_
    exact v_zret (pc := 19) dMo_fitting_19 (by decide) (by decide) hf
  refine v_iload_n (i := 0) (pc := 12) dMo_fitting_12 rfl rfl ?_
  refine v_iconst (pc := 13) (2:Int32) dMo_fitting_13 rfl ?_
  refine v_irem (pc := 14) dMo_fitting_14 (by decide) ?_
  refine v_if_ne (pc := 15) (tgt := 20) dMo_fitting_15 rfl hf (fun hf => ?_) (fun hf => ?_)
  · refine v_iconst (pc := 18) (0:Int32) dMo_fitting_18 rfl ?_
    exact v_zret (pc := 19) dMo_fitting_19 (by decide) (by decide) hf
  refine v_iconst (pc := 20) (3:Int32) dMo_fitting_20 rfl ?_
  refine v_istore_n (i := 1) (pc := 21) (ls' := [some (.int i_0), some (.int (3:Int32))]) dMo_fitting_21 rfl (by decide) rfl ?_
  refine v_wk (ls' := [some (.int i_0), some (.int (3:Int32))]) ⟨rfl, rfl, trivial⟩ ?_
  exact tMo_fitting_22 n h i_0 (3:Int32) hf
abbrev rmMo_init : Room := { frames := 1, cells := 0, slots := 0, locals := 21 }
def fMo_init (n : Nat) (h : MH) (a_0 : Nat) (i_1 : Int32) : Option MH := (bnd2 (fMo_fitting n h i_1) fun h1 i2 => (if i2 = (0:Int32) then ((pf h1 a_0 [3] 0 (.long (998244353:Int64))).bind fun h3 => (some h3)) else ((pf h1 a_0 [3] 0 (.long i_1.toInt64)).bind fun h4 => (some h4))))
set_option maxRecDepth 20000 in
set_option maxHeartbeats 4000000 in
theorem sMo_init {g : Gh} {h' : MH} {n : Nat} {h : MH} {a_0 : Nat} {i_1 : Int32} (hf : fMo_init n h a_0 i_1 = some h') : Sp g yMo_init cMo_init 2 none rmMo_init h [.ref a_0, .int i_1] h' none := by
  refine sp_of (by decide) (Nat.le_of_ble_eq_true rfl) ?_
  change V g yMo_init cMo_init 2 none rmMo_init (ZQ g rmMo_init h' none) 0 0 h 0 [some (.ref a_0), some (.int i_1)] []
  unfold fMo_init at hf
  refine v_aload_n (i := 0) (pc := 0) dMo_init_0 rfl rfl ?_
  refine v_objInit (pc := 1) dMo_init_1 mlMo_1 obI obC (by decide) (Nat.le_of_ble_eq_true rfl) ?_
  refine v_aload_n (i := 0) (pc := 4) dMo_init_4 rfl rfl ?_
  refine v_iload_n (i := 1) (pc := 5) dMo_init_5 rfl rfl ?_
  obtain ⟨h1, i2, e5, hf⟩ := bndp hf
  refine v_S1 (pc := 6) (As := [.int i_1]) (rest := [.ref a_0]) lsMo_7 (sMo_fitting e5) ⟨Nat.le_of_ble_eq_true rfl, Nat.le_of_ble_eq_true rfl, Nat.le_of_ble_eq_true rfl, Nat.le_of_ble_eq_true rfl⟩ dMo_init_6 rfl rfl (Nat.le_of_ble_eq_true rfl) ?_
  refine v_if_eq (pc := 9) (tgt := 17) dMo_init_9 rfl hf (fun hf => ?_) (fun hf => ?_)
  · refine v_ldc2 (pc := 17) dMo_init_17 klMo_13 ?_
    refine v_putF (pc := 20) ffMo_15 rfl (fun _ => ⟨rfl, rfl⟩) dMo_init_20 hf (fun h3 hf => ?_)
    exact v_vret (pc := 23) dMo_init_23 (by decide) (by decide) hf
  refine v_iload_n (i := 1) (pc := 12) dMo_init_12 rfl rfl ?_
  refine v_i2l (pc := 13) dMo_init_13 ?_
  refine v_goto (pc := 14) (tgt := 20) dMo_init_14 rfl ?_
  refine v_putF (pc := 20) ffMo_15 rfl (fun _ => ⟨rfl, rfl⟩) dMo_init_20 hf (fun h4 hf => ?_)
  exact v_vret (pc := 23) dMo_init_23 (by decide) (by decide) hf
abbrev rmFo_code : Room := { frames := 0, cells := 0, slots := 0, locals := 0 }
def bFo_code_6 (n : Nat) (k6 : (MH × Nat × Int32 × Int32 × Int32 × Int32) → Option (MH × Int32)) (h : MH) (x0 : Nat) (x2 : Int32) (x3 : Int32) (x4 : Int32) (x5 : Int32) : Option (MH × Int32) := (if x2 ≤ x5 then (some (h, x4)) else ((rdI h x0 x5).bind fun i1 => (k6 (h, x0, x2, x3, (((x4 * (8:Int32)) + i1) - x3), (x5 + (1:Int32))))))
def fFo_code_6 (n : Nat) (h : MH) (x0 : Nat) (x2 : Int32) (x3 : Int32) (x4 : Int32) (x5 : Int32) : Option (MH × Int32) := lp (fun n k s => bFo_code_6 n k s.1 s.2.1 s.2.2.1 s.2.2.2.1 s.2.2.2.2.1 s.2.2.2.2.2) n (h, x0, x2, x3, x4, x5)
set_option maxRecDepth 20000 in
set_option maxHeartbeats 4000000 in
theorem tFo_code_6 {g : Gh} {h' : MH} {r' : Int32} (n : Nat) (h : MH) (x0 : Nat) (x2 : Int32) (x3 : Int32) (x4 : Int32) (x5 : Int32) (hf : fFo_code_6 n h x0 x2 x3 x4 x5 = some (h', r')) : V g yFo_code cFo_code 6 (some .int) rmFo_code (ZQ g rmFo_code h' (some (.int r'))) 0 0 h 6 [some (.ref x0), none, some (.int x2), some (.int x3), some (.int x4), some (.int x5)] [] := by
  unfold fFo_code_6 at hf
  refine lp_ind (P := fun s => V g yFo_code cFo_code 6 (some .int) rmFo_code (ZQ g rmFo_code h' (some (.int r'))) 0 0 s.1 6 [some (.ref s.2.1), none, some (.int s.2.2.1), some (.int s.2.2.2.1), some (.int s.2.2.2.2.1), some (.int s.2.2.2.2.2)] []) (fun n k6 hk6 s hf => ?_) n (h, x0, x2, x3, x4, x5) hf
  obtain ⟨h, x0, x2, x3, x4, x5⟩ := s
  replace hk6 : ∀ (h : MH) (x0 : Nat) (x2 : Int32) (x3 : Int32) (x4 : Int32) (x5 : Int32), k6 (h, x0, x2, x3, x4, x5) = some (h', r') → V g yFo_code cFo_code 6 (some .int) rmFo_code (ZQ g rmFo_code h' (some (.int r'))) 0 0 h 6 [some (.ref x0), none, some (.int x2), some (.int x3), some (.int x4), some (.int x5)] [] := fun h x0 x2 x3 x4 x5 => hk6 (h, x0, x2, x3, x4, x5)
  replace hf : bFo_code_6 n k6 h x0 x2 x3 x4 x5 = some (h', r') := hf
  change V g yFo_code cFo_code 6 (some .int) rmFo_code (ZQ g rmFo_code h' (some (.int r'))) 0 0 h 6 [some (.ref x0), none, some (.int x2), some (.int x3), some (.int x4), some (.int x5)] []
  unfold bFo_code_6 at hf
  refine v_iload (pc := 6) dFo_code_6 rfl ?_
  refine v_iload_n (i := 2) (pc := 8) dFo_code_8 rfl rfl ?_
  refine v_icmp_ge (pc := 9) (tgt := 32) dFo_code_9 rfl hf (fun hf => ?_) (fun hf => ?_)
  · refine v_iload (pc := 32) dFo_code_32 rfl ?_
    exact v_iret (pc := 34) dFo_code_34 (by decide) (by decide) hf
  refine v_iload (pc := 12) dFo_code_12 rfl ?_
  refine v_bipush (pc := 14) (8:Int32) dFo_code_14 rfl ?_
  refine v_imul (pc := 16) dFo_code_16 ?_
  refine v_aload_n (i := 0) (pc := 17) dFo_code_17 rfl rfl ?_
  refine v_iload (pc := 18) dFo_code_18 rfl ?_
  refine v_iald (pc := 20) dFo_code_20 hf (fun i1 hf => ?_)
  refine v_iadd (pc := 21) dFo_code_21 ?_
  refine v_iload_n (i := 3) (pc := 22) dFo_code_22 rfl rfl ?_
  refine v_isub (pc := 23) dFo_code_23 ?_
  refine v_istore (pc := 24) (ls' := [some (.ref x0), none, some (.int x2), some (.int x3), some (.int (((x4 * (8:Int32)) + i1) - x3)), some (.int x5)]) dFo_code_24 (by decide) rfl ?_
  refine v_iinc (pc := 26) (v := (x5 + (1:Int32))) (ls' := [some (.ref x0), none, some (.int x2), some (.int x3), some (.int (((x4 * (8:Int32)) + i1) - x3)), some (.int (x5 + (1:Int32)))]) dFo_code_26 rfl rfl (by decide) rfl ?_
  refine v_goto (pc := 29) (tgt := 6) dFo_code_29 rfl ?_
  refine v_wk (ls' := [some (.ref x0), none, some (.int x2), some (.int x3), some (.int (((x4 * (8:Int32)) + i1) - x3)), some (.int (x5 + (1:Int32)))]) ⟨rfl, rfl, rfl, rfl, rfl, trivial⟩ ?_
  exact hk6 h x0 x2 x3 (((x4 * (8:Int32)) + i1) - x3) (x5 + (1:Int32)) hf
def fFo_code (n : Nat) (h : MH) (a_0 : Nat) (i_1 : Int32) (i_2 : Int32) (i_3 : Int32) : Option (MH × Int32) := (fFo_code_6 n h a_0 i_2 i_3 (1:Int32) i_1)
set_option maxRecDepth 20000 in
set_option maxHeartbeats 4000000 in
theorem sFo_code {g : Gh} {h' : MH} {r' : Int32} {n : Nat} {h : MH} {a_0 : Nat} {i_1 : Int32} {i_2 : Int32} {i_3 : Int32} (hf : fFo_code n h a_0 i_1 i_2 i_3 = some (h', r')) : Sp g yFo_code cFo_code 6 (some .int) rmFo_code h [.ref a_0, .int i_1, .int i_2, .int i_3] h' (some (.int r')) := by
  refine sp_of (by decide) (Nat.le_of_ble_eq_true rfl) ?_
  change V g yFo_code cFo_code 6 (some .int) rmFo_code (ZQ g rmFo_code h' (some (.int r'))) 0 0 h 0 [some (.ref a_0), some (.int i_1), some (.int i_2), some (.int i_3), none, none] []
  unfold fFo_code at hf
  refine v_iconst (pc := 0) (1:Int32) dFo_code_0 rfl ?_
  refine v_istore (pc := 1) (ls' := [some (.ref a_0), some (.int i_1), some (.int i_2), some (.int i_3), some (.int (1:Int32)), none]) dFo_code_1 (by decide) rfl ?_
  refine v_iload_n (i := 1) (pc := 3) dFo_code_3 rfl rfl ?_
  refine v_istore (pc := 4) (ls' := [some (.ref a_0), some (.int i_1), some (.int i_2), some (.int i_3), some (.int (1:Int32)), some (.int i_1)]) dFo_code_4 (by decide) rfl ?_
  refine v_wk (ls' := [some (.ref a_0), none, some (.int i_2), some (.int i_3), some (.int (1:Int32)), some (.int i_1)]) ⟨rfl, rfl, rfl, rfl, rfl, trivial⟩ ?_
  exact tFo_code_6 n h a_0 i_2 i_3 (1:Int32) i_1 hf
abbrev rmFo_plantFirst : Room := { frames := 1, cells := 0, slots := 0, locals := 25 }
def fFo_plantFirst (n : Nat) (h : MH) (a_0 : Nat) : Option MH := ((gfR h a_0 [0] 1).bind fun a1 => ((wrI h a1 (0:Int32) (1:Int32)).bind fun h2 => ((gfR h2 a_0 [0] 2).bind fun a3 => ((wrI h2 a3 (0:Int32) (1:Int32)).bind fun h4 => ((gfR h4 a_0 [0] 3).bind fun a5 => ((wrI h4 a5 (0:Int32) (1:Int32)).bind fun h6 => ((gfR h6 a_0 [0] 8).bind fun a7 => ((gfR h6 a_0 [0] 0).bind fun a8 => (rdRn h6 a8 2 (0:Int32) (none : Option MH) fun a9 => (bnd2 (fFo_code n h6 a9 (0:Int32) (1:Int32) (0:Int32)) fun h10 i11 => ((wrI h10 a7 (0:Int32) i11).bind fun h12 => (some h12))))))))))))
set_option maxRecDepth 20000 in
set_option maxHeartbeats 4000000 in
theorem sFo_plantFirst {g : Gh} {h' : MH} {n : Nat} {h : MH} {a_0 : Nat} (hf : fFo_plantFirst n h a_0 = some h') : Sp g yFo_plantFirst cFo_plantFirst 1 none rmFo_plantFirst h [.ref a_0] h' none := by
  refine sp_of (by decide) (Nat.le_of_ble_eq_true rfl) ?_
  change V g yFo_plantFirst cFo_plantFirst 1 none rmFo_plantFirst (ZQ g rmFo_plantFirst h' none) 0 0 h 0 [some (.ref a_0)] []
  unfold fFo_plantFirst at hf
  refine v_aload_n (i := 0) (pc := 0) dFo_plantFirst_0 rfl rfl ?_
  refine v_getR (pc := 1) fgFo_16 dFo_plantFirst_1 hf (fun a1 hf => ?_)
  refine v_iconst (pc := 4) (0:Int32) dFo_plantFirst_4 rfl ?_
  refine v_iconst (pc := 5) (1:Int32) dFo_plantFirst_5 rfl ?_
  refine v_iast (pc := 6) dFo_plantFirst_6 hf (fun h2 hf => ?_)
  refine v_aload_n (i := 0) (pc := 7) dFo_plantFirst_7 rfl rfl ?_
  refine v_getR (pc := 8) fgFo_20 dFo_plantFirst_8 hf (fun a3 hf => ?_)
  refine v_iconst (pc := 11) (0:Int32) dFo_plantFirst_11 rfl ?_
  refine v_iconst (pc := 12) (1:Int32) dFo_plantFirst_12 rfl ?_
  refine v_iast (pc := 13) dFo_plantFirst_13 hf (fun h4 hf => ?_)
  refine v_aload_n (i := 0) (pc := 14) dFo_plantFirst_14 rfl rfl ?_
  refine v_getR (pc := 15) fgFo_23 dFo_plantFirst_15 hf (fun a5 hf => ?_)
  refine v_iconst (pc := 18) (0:Int32) dFo_plantFirst_18 rfl ?_
  refine v_iconst (pc := 19) (1:Int32) dFo_plantFirst_19 rfl ?_
  refine v_iast (pc := 20) dFo_plantFirst_20 hf (fun h6 hf => ?_)
  refine v_aload_n (i := 0) (pc := 21) dFo_plantFirst_21 rfl rfl ?_
  refine v_getR (pc := 22) fgFo_38 dFo_plantFirst_22 hf (fun a7 hf => ?_)
  refine v_iconst (pc := 25) (0:Int32) dFo_plantFirst_25 rfl ?_
  refine v_aload_n (i := 0) (pc := 26) dFo_plantFirst_26 rfl rfl ?_
  refine v_getR (pc := 27) fgFo_11 dFo_plantFirst_27 hf (fun a8 hf => ?_)
  refine v_iconst (pc := 30) (0:Int32) dFo_plantFirst_30 rfl ?_
  refine v_aald (pc := 31) (Or.inl rfl) dFo_plantFirst_31 hf (fun hf => ?_) (fun a9 hf => ?_)
  · cases hf
  refine v_iconst (pc := 32) (0:Int32) dFo_plantFirst_32 rfl ?_
  refine v_iconst (pc := 33) (1:Int32) dFo_plantFirst_33 rfl ?_
  refine v_iconst (pc := 34) (0:Int32) dFo_plantFirst_34 rfl ?_
  obtain ⟨h10, i11, e13, hf⟩ := bndp hf
  refine v_S1 (pc := 35) (As := [.ref a9, .int (0:Int32), .int (1:Int32), .int (0:Int32)]) (rest := [.int (0:Int32), .ref a7]) lsFo_55 (sFo_code e13) ⟨Nat.le_of_ble_eq_true rfl, Nat.le_of_ble_eq_true rfl, Nat.le_of_ble_eq_true rfl, Nat.le_of_ble_eq_true rfl⟩ dFo_plantFirst_35 rfl rfl (Nat.le_of_ble_eq_true rfl) ?_
  refine v_iast (pc := 38) dFo_plantFirst_38 hf (fun h12 hf => ?_)
  exact v_vret (pc := 39) dFo_plantFirst_39 (by decide) (by decide) hf
abbrev rmFo_lower : Room := { frames := 0, cells := 0, slots := 0, locals := 0 }
def fFo_lower_60 (k29 : (MH × Nat × Nat × Int32 × Int32 × Int32 × Int32) → Option MH) (n : Nat) (h : MH) (s0 : Int32) (s1 : Int32) (s2 : Nat) (x0 : Nat) (x1 : Nat) (x2 : Int32) (x3 : Int32) (x4 : Int32) (x5 : Int32) : Option MH := ((wrI h s2 s1 s0).bind fun h1 => (k29 (h1, x0, x1, x2, x3, x4, (x5 + (1:Int32)))))
set_option maxRecDepth 20000 in
set_option maxHeartbeats 4000000 in
theorem tFo_lower_60 {g : Gh} {h' : MH} {k29 : (MH × Nat × Nat × Int32 × Int32 × Int32 × Int32) → Option MH} (hk29 : ∀ (h : MH) (x0 : Nat) (x1 : Nat) (x2 : Int32) (x3 : Int32) (x4 : Int32) (x5 : Int32), k29 (h, x0, x1, x2, x3, x4, x5) = some h' → V g yFo_lower cFo_lower 6 none rmFo_lower (ZQ g rmFo_lower h' none) 0 0 h 29 [some (.ref x0), some (.ref x1), some (.int x2), some (.int x3), some (.int x4), some (.int x5)] []) (n : Nat) (h : MH) (s0 : Int32) (s1 : Int32) (s2 : Nat) (x0 : Nat) (x1 : Nat) (x2 : Int32) (x3 : Int32) (x4 : Int32) (x5 : Int32) (hf : fFo_lower_60 k29 n h s0 s1 s2 x0 x1 x2 x3 x4 x5 = some h') : V g yFo_lower cFo_lower 6 none rmFo_lower (ZQ g rmFo_lower h' none) 0 0 h 60 [some (.ref x0), some (.ref x1), some (.int x2), some (.int x3), some (.int x4), some (.int x5)] [.int s0, .int s1, .ref s2] := by
  unfold fFo_lower_60 at hf
  refine v_iast (pc := 60) dFo_lower_60 hf (fun h1 hf => ?_)
  refine v_iinc (pc := 61) (v := (x5 + (1:Int32))) (ls' := [some (.ref x0), some (.ref x1), some (.int x2), some (.int x3), some (.int x4), some (.int (x5 + (1:Int32)))]) dFo_lower_61 rfl rfl (by decide) rfl ?_
  refine v_goto (pc := 64) (tgt := 29) dFo_lower_64 rfl ?_
  refine v_wk (ls' := [some (.ref x0), some (.ref x1), some (.int x2), some (.int x3), some (.int x4), some (.int (x5 + (1:Int32)))]) ⟨rfl, rfl, rfl, rfl, rfl, rfl, trivial⟩ ?_
  exact hk29 h1 x0 x1 x2 x3 x4 (x5 + (1:Int32)) hf
def bFo_lower_29 (n : Nat) (k29 : (MH × Nat × Nat × Int32 × Int32 × Int32 × Int32) → Option MH) (h : MH) (x0 : Nat) (x1 : Nat) (x2 : Int32) (x3 : Int32) (x4 : Int32) (x5 : Int32) : Option MH := (if x3 ≤ x5 then (some h) else (if x2 ≤ x5 then ((rdI h x1 (x5 - (x2 - x4))).bind fun i1 => (fFo_lower_60 k29 n h i1 x5 x1 x0 x1 x2 x3 x4 x5)) else ((rdI h x0 x5).bind fun i2 => (fFo_lower_60 k29 n h i2 x5 x1 x0 x1 x2 x3 x4 x5))))
def fFo_lower_29 (n : Nat) (h : MH) (x0 : Nat) (x1 : Nat) (x2 : Int32) (x3 : Int32) (x4 : Int32) (x5 : Int32) : Option MH := lp (fun n k s => bFo_lower_29 n k s.1 s.2.1 s.2.2.1 s.2.2.2.1 s.2.2.2.2.1 s.2.2.2.2.2.1 s.2.2.2.2.2.2) n (h, x0, x1, x2, x3, x4, x5)
set_option maxRecDepth 20000 in
set_option maxHeartbeats 4000000 in
theorem tFo_lower_29 {g : Gh} {h' : MH} (n : Nat) (h : MH) (x0 : Nat) (x1 : Nat) (x2 : Int32) (x3 : Int32) (x4 : Int32) (x5 : Int32) (hf : fFo_lower_29 n h x0 x1 x2 x3 x4 x5 = some h') : V g yFo_lower cFo_lower 6 none rmFo_lower (ZQ g rmFo_lower h' none) 0 0 h 29 [some (.ref x0), some (.ref x1), some (.int x2), some (.int x3), some (.int x4), some (.int x5)] [] := by
  unfold fFo_lower_29 at hf
  refine lp_ind (P := fun s => V g yFo_lower cFo_lower 6 none rmFo_lower (ZQ g rmFo_lower h' none) 0 0 s.1 29 [some (.ref s.2.1), some (.ref s.2.2.1), some (.int s.2.2.2.1), some (.int s.2.2.2.2.1), some (.int s.2.2.2.2.2.1), some (.int s.2.2.2.2.2.2)] []) (fun n k29 hk29 s hf => ?_) n (h, x0, x1, x2, x3, x4, x5) hf
  obtain ⟨h, x0, x1, x2, x3, x4, x5⟩ := s
  replace hk29 : ∀ (h : MH) (x0 : Nat) (x1 : Nat) (x2 : Int32) (x3 : Int32) (x4 : Int32) (x5 : Int32), k29 (h, x0, x1, x2, x3, x4, x5) = some h' → V g yFo_lower cFo_lower 6 none rmFo_lower (ZQ g rmFo_lower h' none) 0 0 h 29 [some (.ref x0), some (.ref x1), some (.int x2), some (.int x3), some (.int x4), some (.int x5)] [] := fun h x0 x1 x2 x3 x4 x5 => hk29 (h, x0, x1, x2, x3, x4, x5)
  replace hf : bFo_lower_29 n k29 h x0 x1 x2 x3 x4 x5 = some h' := hf
  change V g yFo_lower cFo_lower 6 none rmFo_lower (ZQ g rmFo_lower h' none) 0 0 h 29 [some (.ref x0), some (.ref x1), some (.int x2), some (.int x3), some (.int x4), some (.int x5)] []
  unfold bFo_lower_29 at hf
  refine v_iload (pc := 29) dFo_lower_29 rfl ?_
  refine v_iload_n (i := 3) (pc := 31) dFo_lower_31 rfl rfl ?_
  refine v_icmp_ge (pc := 32) (tgt := 67) dFo_lower_32 rfl hf (fun hf => ?_) (fun hf => ?_)
  · exact v_vret (pc := 67) dFo_lower_67 (by decide) (by decide) hf
  refine v_aload_n (i := 1) (pc := 35) dFo_lower_35 rfl rfl ?_
  refine v_iload (pc := 36) dFo_lower_36 rfl ?_
  refine v_iload (pc := 38) dFo_lower_38 rfl ?_
  refine v_iload_n (i := 2) (pc := 40) dFo_lower_40 rfl rfl ?_
  refine v_icmp_ge (pc := 41) (tgt := 51) dFo_lower_41 rfl hf (fun hf => ?_) (fun hf => ?_)
  rotate_left
  · refine v_aload_n (i := 0) (pc := 44) dFo_lower_44 rfl rfl ?_
    refine v_iload (pc := 45) dFo_lower_45 rfl ?_
    refine v_iald (pc := 47) dFo_lower_47 hf (fun i2 hf => ?_)
    refine v_goto (pc := 48) (tgt := 60) dFo_lower_48 rfl ?_
    refine v_wk (ls' := [some (.ref x0), some (.ref x1), some (.int x2), some (.int x3), some (.int x4), some (.int x5)]) ⟨rfl, rfl, rfl, rfl, rfl, rfl, trivial⟩ ?_
    exact tFo_lower_60 hk29 n h i2 x5 x1 x0 x1 x2 x3 x4 x5 hf
  refine v_aload_n (i := 1) (pc := 51) dFo_lower_51 rfl rfl ?_
  refine v_iload (pc := 52) dFo_lower_52 rfl ?_
  refine v_iload_n (i := 2) (pc := 54) dFo_lower_54 rfl rfl ?_
  refine v_iload (pc := 55) dFo_lower_55 rfl ?_
  refine v_isub (pc := 57) dFo_lower_57 ?_
  refine v_isub (pc := 58) dFo_lower_58 ?_
  refine v_iald (pc := 59) dFo_lower_59 hf (fun i1 hf => ?_)
  refine v_wk (ls' := [some (.ref x0), some (.ref x1), some (.int x2), some (.int x3), some (.int x4), some (.int x5)]) ⟨rfl, rfl, rfl, rfl, rfl, rfl, trivial⟩ ?_
  exact tFo_lower_60 hk29 n h i1 x5 x1 x0 x1 x2 x3 x4 x5 hf
def fFo_lower_26 (n : Nat) (h : MH) (x0 : Nat) (x1 : Nat) (x2 : Int32) (x3 : Int32) (x4 : Int32) : Option MH := (fFo_lower_29 n h x0 x1 x2 x3 x4 (0:Int32))
set_option maxRecDepth 20000 in
set_option maxHeartbeats 4000000 in
theorem tFo_lower_26 {g : Gh} {h' : MH} (n : Nat) (h : MH) (x0 : Nat) (x1 : Nat) (x2 : Int32) (x3 : Int32) (x4 : Int32) (hf : fFo_lower_26 n h x0 x1 x2 x3 x4 = some h') : V g yFo_lower cFo_lower 6 none rmFo_lower (ZQ g rmFo_lower h' none) 0 0 h 26 [some (.ref x0), some (.ref x1), some (.int x2), some (.int x3), some (.int x4), none] [] := by
  unfold fFo_lower_26 at hf
  refine v_iconst (pc := 26) (0:Int32) dFo_lower_26 rfl ?_
  refine v_istore (pc := 27) (ls' := [some (.ref x0), some (.ref x1), some (.int x2), some (.int x3), some (.int x4), some (.int (0:Int32))]) dFo_lower_27 (by decide) rfl ?_
  refine v_wk (ls' := [some (.ref x0), some (.ref x1), some (.int x2), some (.int x3), some (.int x4), some (.int (0:Int32))]) ⟨rfl, rfl, rfl, rfl, rfl, rfl, trivial⟩ ?_
  exact tFo_lower_29 n h x0 x1 x2 x3 x4 (0:Int32) hf
def bFo_lower_5 (n : Nat) (k5 : (MH × Nat × Nat × Int32 × Int32 × Int32) → Option MH) (h : MH) (x0 : Nat) (x1 : Nat) (x2 : Int32) (x3 : Int32) (x4 : Int32) : Option MH := (if x4 ≤ (0:Int32) then (fFo_lower_26 n h x0 x1 x2 x3 x4) else ((rdI h x0 x4).bind fun i1 => ((rdI h x0 x2).bind fun i2 => (if i1 < i2 then (fFo_lower_26 n h x0 x1 x2 x3 x4) else (k5 (h, x0, x1, x2, x3, (x4 + (-1:Int32))))))))
def fFo_lower_5 (n : Nat) (h : MH) (x0 : Nat) (x1 : Nat) (x2 : Int32) (x3 : Int32) (x4 : Int32) : Option MH := lp (fun n k s => bFo_lower_5 n k s.1 s.2.1 s.2.2.1 s.2.2.2.1 s.2.2.2.2.1 s.2.2.2.2.2) n (h, x0, x1, x2, x3, x4)
set_option maxRecDepth 20000 in
set_option maxHeartbeats 4000000 in
theorem tFo_lower_5 {g : Gh} {h' : MH} (n : Nat) (h : MH) (x0 : Nat) (x1 : Nat) (x2 : Int32) (x3 : Int32) (x4 : Int32) (hf : fFo_lower_5 n h x0 x1 x2 x3 x4 = some h') : V g yFo_lower cFo_lower 6 none rmFo_lower (ZQ g rmFo_lower h' none) 0 0 h 5 [some (.ref x0), some (.ref x1), some (.int x2), some (.int x3), some (.int x4), none] [] := by
  unfold fFo_lower_5 at hf
  refine lp_ind (P := fun s => V g yFo_lower cFo_lower 6 none rmFo_lower (ZQ g rmFo_lower h' none) 0 0 s.1 5 [some (.ref s.2.1), some (.ref s.2.2.1), some (.int s.2.2.2.1), some (.int s.2.2.2.2.1), some (.int s.2.2.2.2.2), none] []) (fun n k5 hk5 s hf => ?_) n (h, x0, x1, x2, x3, x4) hf
  obtain ⟨h, x0, x1, x2, x3, x4⟩ := s
  replace hk5 : ∀ (h : MH) (x0 : Nat) (x1 : Nat) (x2 : Int32) (x3 : Int32) (x4 : Int32), k5 (h, x0, x1, x2, x3, x4) = some h' → V g yFo_lower cFo_lower 6 none rmFo_lower (ZQ g rmFo_lower h' none) 0 0 h 5 [some (.ref x0), some (.ref x1), some (.int x2), some (.int x3), some (.int x4), none] [] := fun h x0 x1 x2 x3 x4 => hk5 (h, x0, x1, x2, x3, x4)
  replace hf : bFo_lower_5 n k5 h x0 x1 x2 x3 x4 = some h' := hf
  change V g yFo_lower cFo_lower 6 none rmFo_lower (ZQ g rmFo_lower h' none) 0 0 h 5 [some (.ref x0), some (.ref x1), some (.int x2), some (.int x3), some (.int x4), none] []
  unfold bFo_lower_5 at hf
  refine v_iload (pc := 5) dFo_lower_5 rfl ?_
  refine v_if_le (pc := 7) (tgt := 26) dFo_lower_7 rfl hf (fun hf => ?_) (fun hf => ?_)
  · refine v_wk (ls' := [some (.ref x0), some (.ref x1), some (.int x2), some (.int x3), some (.int x4), none]) ⟨rfl, rfl, rfl, rfl, rfl, trivial⟩ ?_
    exact tFo_lower_26 n h x0 x1 x2 x3 x4 hf
  refine v_aload_n (i := 0) (pc := 10) dFo_lower_10 rfl rfl ?_
  refine v_iload (pc := 11) dFo_lower_11 rfl ?_
  refine v_iald (pc := 13) dFo_lower_13 hf (fun i1 hf => ?_)
  refine v_aload_n (i := 0) (pc := 14) dFo_lower_14 rfl rfl ?_
  refine v_iload_n (i := 2) (pc := 15) dFo_lower_15 rfl rfl ?_
  refine v_iald (pc := 16) dFo_lower_16 hf (fun i2 hf => ?_)
  refine v_icmp_lt (pc := 17) (tgt := 26) dFo_lower_17 rfl hf (fun hf => ?_) (fun hf => ?_)
  · refine v_wk (ls' := [some (.ref x0), some (.ref x1), some (.int x2), some (.int x3), some (.int x4), none]) ⟨rfl, rfl, rfl, rfl, rfl, trivial⟩ ?_
    exact tFo_lower_26 n h x0 x1 x2 x3 x4 hf
  refine v_iinc (pc := 20) (v := (x4 + (-1:Int32))) (ls' := [some (.ref x0), some (.ref x1), some (.int x2), some (.int x3), some (.int (x4 + (-1:Int32))), none]) dFo_lower_20 rfl rfl (by decide) rfl ?_
  refine v_goto (pc := 23) (tgt := 5) dFo_lower_23 rfl ?_
  refine v_wk (ls' := [some (.ref x0), some (.ref x1), some (.int x2), some (.int x3), some (.int (x4 + (-1:Int32))), none]) ⟨rfl, rfl, rfl, rfl, rfl, trivial⟩ ?_
  exact hk5 h x0 x1 x2 x3 (x4 + (-1:Int32)) hf
def fFo_lower (n : Nat) (h : MH) (a_0 : Nat) (a_1 : Nat) (i_2 : Int32) (i_3 : Int32) : Option MH := (fFo_lower_5 n h a_0 a_1 i_2 i_3 (i_2 - (1:Int32)))
set_option maxRecDepth 20000 in
set_option maxHeartbeats 4000000 in
theorem sFo_lower {g : Gh} {h' : MH} {n : Nat} {h : MH} {a_0 : Nat} {a_1 : Nat} {i_2 : Int32} {i_3 : Int32} (hf : fFo_lower n h a_0 a_1 i_2 i_3 = some h') : Sp g yFo_lower cFo_lower 6 none rmFo_lower h [.ref a_0, .ref a_1, .int i_2, .int i_3] h' none := by
  refine sp_of (by decide) (Nat.le_of_ble_eq_true rfl) ?_
  change V g yFo_lower cFo_lower 6 none rmFo_lower (ZQ g rmFo_lower h' none) 0 0 h 0 [some (.ref a_0), some (.ref a_1), some (.int i_2), some (.int i_3), none, none] []
  unfold fFo_lower at hf
  refine v_iload_n (i := 2) (pc := 0) dFo_lower_0 rfl rfl ?_
  refine v_iconst (pc := 1) (1:Int32) dFo_lower_1 rfl ?_
  refine v_isub (pc := 2) dFo_lower_2 ?_
  refine v_istore (pc := 3) (ls' := [some (.ref a_0), some (.ref a_1), some (.int i_2), some (.int i_3), some (.int (i_2 - (1:Int32))), none]) dFo_lower_3 (by decide) rfl ?_
  refine v_wk (ls' := [some (.ref a_0), some (.ref a_1), some (.int i_2), some (.int i_3), some (.int (i_2 - (1:Int32))), none]) ⟨rfl, rfl, rfl, rfl, rfl, trivial⟩ ?_
  exact tFo_lower_5 n h a_0 a_1 i_2 i_3 (i_2 - (1:Int32)) hf
abbrev rmFo_plant : Room := { frames := 1, cells := 0, slots := 0, locals := 25 }
def fFo_plant_115 (n : Nat) (h : MH) (x0 : Nat) (x1 : Int32) (x3 : Nat) : Option MH := ((gfR h x0 [0] 8).bind fun a1 => ((gfR h x0 [0] 1).bind fun a2 => ((rdI h a2 x1).bind fun i3 => (bnd2 (fFo_code n h x3 (0:Int32) i3 (0:Int32)) fun h4 i5 => ((wrI h4 a1 x1 i5).bind fun h6 => (some h6))))))
set_option maxRecDepth 20000 in
set_option maxHeartbeats 4000000 in
theorem tFo_plant_115 {g : Gh} {h' : MH} (n : Nat) (h : MH) (x0 : Nat) (x1 : Int32) (x3 : Nat) (hf : fFo_plant_115 n h x0 x1 x3 = some h') : V g yFo_plant cFo_plant 7 none rmFo_plant (ZQ g rmFo_plant h' none) 0 0 h 115 [some (.ref x0), some (.int x1), none, some (.ref x3), none, none, none] [] := by
  unfold fFo_plant_115 at hf
  refine v_aload_n (i := 0) (pc := 115) dFo_plant_115 rfl rfl ?_
  refine v_getR (pc := 116) fgFo_38 dFo_plant_116 hf (fun a1 hf => ?_)
  refine v_iload_n (i := 1) (pc := 119) dFo_plant_119 rfl rfl ?_
  refine v_aload_n (i := 3) (pc := 120) dFo_plant_120 rfl rfl ?_
  refine v_iconst (pc := 121) (0:Int32) dFo_plant_121 rfl ?_
  refine v_aload_n (i := 0) (pc := 122) dFo_plant_122 rfl rfl ?_
  refine v_getR (pc := 123) fgFo_16 dFo_plant_123 hf (fun a2 hf => ?_)
  refine v_iload_n (i := 1) (pc := 126) dFo_plant_126 rfl rfl ?_
  refine v_iald (pc := 127) dFo_plant_127 hf (fun i3 hf => ?_)
  refine v_iconst (pc := 128) (0:Int32) dFo_plant_128 rfl ?_
  obtain ⟨h4, i5, e7, hf⟩ := bndp hf
  refine v_S1 (pc := 129) (As := [.ref x3, .int (0:Int32), .int i3, .int (0:Int32)]) (rest := [.int x1, .ref a1]) lsFo_55 (sFo_code e7) ⟨Nat.le_of_ble_eq_true rfl, Nat.le_of_ble_eq_true rfl, Nat.le_of_ble_eq_true rfl, Nat.le_of_ble_eq_true rfl⟩ dFo_plant_129 rfl rfl (Nat.le_of_ble_eq_true rfl) ?_
  refine v_iast (pc := 132) dFo_plant_132 hf (fun h6 hf => ?_)
  exact v_vret (pc := 133) dFo_plant_133 (by decide) (by decide) hf
def fFo_plant_95 (n : Nat) (h : MH) (x0 : Nat) (x1 : Int32) (x3 : Nat) : Option MH := (fFo_plant_115 n h x0 x1 x3)
set_option maxRecDepth 20000 in
set_option maxHeartbeats 4000000 in
theorem tFo_plant_95 {g : Gh} {h' : MH} (n : Nat) (h : MH) (x0 : Nat) (x1 : Int32) (x3 : Nat) (hf : fFo_plant_95 n h x0 x1 x3 = some h') : V g yFo_plant cFo_plant 7 none rmFo_plant (ZQ g rmFo_plant h' none) 0 0 h 95 [some (.ref x0), some (.int x1), none, some (.ref x3), none, none, none] [] := by
  unfold fFo_plant_95 at hf
  refine v_goto (pc := 95) (tgt := 115) dFo_plant_95 rfl ?_
  refine v_wk (ls' := [some (.ref x0), some (.int x1), none, some (.ref x3), none, none, none]) ⟨rfl, rfl, rfl, trivial⟩ ?_
  exact tFo_plant_115 n h x0 x1 x3 hf
def bFo_plant_69 (n : Nat) (k69 : (MH × Nat × Int32 × Nat × Int32 × Int32) → Option MH) (h : MH) (x0 : Nat) (x1 : Int32) (x3 : Nat) (x4 : Int32) (x6 : Int32) : Option MH := (if x4 < x6 then (fFo_plant_95 n h x0 x1 x3) else (if (6:Int32) ≤ x6 then (fFo_plant_95 n h x0 x1 x3) else ((wrI h x3 x6 x6).bind fun h1 => (k69 (h1, x0, x1, x3, x4, (x6 + (1:Int32)))))))
def fFo_plant_69 (n : Nat) (h : MH) (x0 : Nat) (x1 : Int32) (x3 : Nat) (x4 : Int32) (x6 : Int32) : Option MH := lp (fun n k s => bFo_plant_69 n k s.1 s.2.1 s.2.2.1 s.2.2.2.1 s.2.2.2.2.1 s.2.2.2.2.2) n (h, x0, x1, x3, x4, x6)
set_option maxRecDepth 20000 in
set_option maxHeartbeats 4000000 in
theorem tFo_plant_69 {g : Gh} {h' : MH} (n : Nat) (h : MH) (x0 : Nat) (x1 : Int32) (x3 : Nat) (x4 : Int32) (x6 : Int32) (hf : fFo_plant_69 n h x0 x1 x3 x4 x6 = some h') : V g yFo_plant cFo_plant 7 none rmFo_plant (ZQ g rmFo_plant h' none) 0 0 h 69 [some (.ref x0), some (.int x1), none, some (.ref x3), some (.int x4), none, some (.int x6)] [] := by
  unfold fFo_plant_69 at hf
  refine lp_ind (P := fun s => V g yFo_plant cFo_plant 7 none rmFo_plant (ZQ g rmFo_plant h' none) 0 0 s.1 69 [some (.ref s.2.1), some (.int s.2.2.1), none, some (.ref s.2.2.2.1), some (.int s.2.2.2.2.1), none, some (.int s.2.2.2.2.2)] []) (fun n k69 hk69 s hf => ?_) n (h, x0, x1, x3, x4, x6) hf
  obtain ⟨h, x0, x1, x3, x4, x6⟩ := s
  replace hk69 : ∀ (h : MH) (x0 : Nat) (x1 : Int32) (x3 : Nat) (x4 : Int32) (x6 : Int32), k69 (h, x0, x1, x3, x4, x6) = some h' → V g yFo_plant cFo_plant 7 none rmFo_plant (ZQ g rmFo_plant h' none) 0 0 h 69 [some (.ref x0), some (.int x1), none, some (.ref x3), some (.int x4), none, some (.int x6)] [] := fun h x0 x1 x3 x4 x6 => hk69 (h, x0, x1, x3, x4, x6)
  replace hf : bFo_plant_69 n k69 h x0 x1 x3 x4 x6 = some h' := hf
  change V g yFo_plant cFo_plant 7 none rmFo_plant (ZQ g rmFo_plant h' none) 0 0 h 69 [some (.ref x0), some (.int x1), none, some (.ref x3), some (.int x4), none, some (.int x6)] []
  unfold bFo_plant_69 at hf
  refine v_iload (pc := 69) dFo_plant_69 rfl ?_
  refine v_iload (pc := 71) dFo_plant_71 rfl ?_
  refine v_icmp_gt (pc := 73) (tgt := 95) dFo_plant_73 rfl hf (fun hf => ?_) (fun hf => ?_)
  · refine v_wk (ls' := [some (.ref x0), some (.int x1), none, some (.ref x3), none, none, none]) ⟨rfl, rfl, rfl, trivial⟩ ?_
    exact tFo_plant_95 n h x0 x1 x3 hf
  refine v_iload (pc := 76) dFo_plant_76 rfl ?_
  refine v_bipush (pc := 78) (6:Int32) dFo_plant_78 rfl ?_
  refine v_icmp_ge (pc := 80) (tgt := 95) dFo_plant_80 rfl hf (fun hf => ?_) (fun hf => ?_)
  · refine v_wk (ls' := [some (.ref x0), some (.int x1), none, some (.ref x3), none, none, none]) ⟨rfl, rfl, rfl, trivial⟩ ?_
    exact tFo_plant_95 n h x0 x1 x3 hf
  refine v_aload_n (i := 3) (pc := 83) dFo_plant_83 rfl rfl ?_
  refine v_iload (pc := 84) dFo_plant_84 rfl ?_
  refine v_iload (pc := 86) dFo_plant_86 rfl ?_
  refine v_iast (pc := 88) dFo_plant_88 hf (fun h1 hf => ?_)
  refine v_iinc (pc := 89) (v := (x6 + (1:Int32))) (ls' := [some (.ref x0), some (.int x1), none, some (.ref x3), some (.int x4), none, some (.int (x6 + (1:Int32)))]) dFo_plant_89 rfl rfl (by decide) rfl ?_
  refine v_goto (pc := 92) (tgt := 69) dFo_plant_92 rfl ?_
  refine v_wk (ls' := [some (.ref x0), some (.int x1), none, some (.ref x3), some (.int x4), none, some (.int (x6 + (1:Int32)))]) ⟨rfl, rfl, rfl, rfl, rfl, trivial⟩ ?_
  exact hk69 h1 x0 x1 x3 x4 (x6 + (1:Int32)) hf
def fFo_plant_51 (n : Nat) (h : MH) (x0 : Nat) (x1 : Int32) (x2 : Nat) (x3 : Nat) (x4 : Int32) (x5 : Int32) : Option MH := (if x5 = (0:Int32) then ((gfR h x0 [0] 1).bind fun a5 => ((wrI h a5 x1 (x4 + (1:Int32))).bind fun h6 => (fFo_plant_69 n h6 x0 x1 x3 x4 (0:Int32)))) else ((gfR h x0 [0] 1).bind fun a1 => ((wrI h a1 x1 x4).bind fun h2 => ((fFo_lower n h2 x2 x3 x5 x4).bind fun h3 => (fFo_plant_115 n h3 x0 x1 x3)))))
set_option maxRecDepth 20000 in
set_option maxHeartbeats 4000000 in
theorem tFo_plant_51 {g : Gh} {h' : MH} (n : Nat) (h : MH) (x0 : Nat) (x1 : Int32) (x2 : Nat) (x3 : Nat) (x4 : Int32) (x5 : Int32) (hf : fFo_plant_51 n h x0 x1 x2 x3 x4 x5 = some h') : V g yFo_plant cFo_plant 7 none rmFo_plant (ZQ g rmFo_plant h' none) 0 0 h 51 [some (.ref x0), some (.int x1), some (.ref x2), some (.ref x3), some (.int x4), some (.int x5), none] [] := by
  unfold fFo_plant_51 at hf
  refine v_iload (pc := 51) dFo_plant_51 rfl ?_
  refine v_if_ne (pc := 53) (tgt := 98) dFo_plant_53 rfl hf (fun hf => ?_) (fun hf => ?_)
  · refine v_aload_n (i := 0) (pc := 56) dFo_plant_56 rfl rfl ?_
    refine v_getR (pc := 57) fgFo_16 dFo_plant_57 hf (fun a5 hf => ?_)
    refine v_iload_n (i := 1) (pc := 60) dFo_plant_60 rfl rfl ?_
    refine v_iload (pc := 61) dFo_plant_61 rfl ?_
    refine v_iconst (pc := 63) (1:Int32) dFo_plant_63 rfl ?_
    refine v_iadd (pc := 64) dFo_plant_64 ?_
    refine v_iast (pc := 65) dFo_plant_65 hf (fun h6 hf => ?_)
    refine v_iconst (pc := 66) (0:Int32) dFo_plant_66 rfl ?_
    refine v_istore (pc := 67) (ls' := [some (.ref x0), some (.int x1), some (.ref x2), some (.ref x3), some (.int x4), some (.int x5), some (.int (0:Int32))]) dFo_plant_67 (by decide) rfl ?_
    refine v_wk (ls' := [some (.ref x0), some (.int x1), none, some (.ref x3), some (.int x4), none, some (.int (0:Int32))]) ⟨rfl, rfl, rfl, rfl, rfl, trivial⟩ ?_
    exact tFo_plant_69 n h6 x0 x1 x3 x4 (0:Int32) hf
  refine v_aload_n (i := 0) (pc := 98) dFo_plant_98 rfl rfl ?_
  refine v_getR (pc := 99) fgFo_16 dFo_plant_99 hf (fun a1 hf => ?_)
  refine v_iload_n (i := 1) (pc := 102) dFo_plant_102 rfl rfl ?_
  refine v_iload (pc := 103) dFo_plant_103 rfl ?_
  refine v_iast (pc := 105) dFo_plant_105 hf (fun h2 hf => ?_)
  refine v_aload_n (i := 2) (pc := 106) dFo_plant_106 rfl rfl ?_
  refine v_aload_n (i := 3) (pc := 107) dFo_plant_107 rfl rfl ?_
  refine v_iload (pc := 108) dFo_plant_108 rfl ?_
  refine v_iload (pc := 110) dFo_plant_110 rfl ?_
  obtain ⟨h3, e4, hf⟩ := bnd hf
  refine v_S0 (pc := 112) (As := [.ref x2, .ref x3, .int x5, .int x4]) (rest := []) lsFo_59 (sFo_lower e4) ⟨Nat.le_of_ble_eq_true rfl, Nat.le_of_ble_eq_true rfl, Nat.le_of_ble_eq_true rfl, Nat.le_of_ble_eq_true rfl⟩ dFo_plant_112 rfl rfl (Nat.le_of_ble_eq_true rfl) ?_
  refine v_wk (ls' := [some (.ref x0), some (.int x1), none, some (.ref x3), none, none, none]) ⟨rfl, rfl, rfl, trivial⟩ ?_
  exact tFo_plant_115 n h3 x0 x1 x3 hf
def bFo_plant_32 (n : Nat) (k32 : (MH × Nat × Int32 × Nat × Nat × Int32 × Int32) → Option MH) (h : MH) (x0 : Nat) (x1 : Int32) (x2 : Nat) (x3 : Nat) (x4 : Int32) (x5 : Int32) : Option MH := (if x5 ≤ (0:Int32) then (fFo_plant_51 n h x0 x1 x2 x3 x4 x5) else ((rdI h x2 x5).bind fun i1 => (if (1:Int32) < i1 then (fFo_plant_51 n h x0 x1 x2 x3 x4 x5) else (k32 (h, x0, x1, x2, x3, x4, (x5 + (-1:Int32)))))))
def fFo_plant_32 (n : Nat) (h : MH) (x0 : Nat) (x1 : Int32) (x2 : Nat) (x3 : Nat) (x4 : Int32) (x5 : Int32) : Option MH := lp (fun n k s => bFo_plant_32 n k s.1 s.2.1 s.2.2.1 s.2.2.2.1 s.2.2.2.2.1 s.2.2.2.2.2.1 s.2.2.2.2.2.2) n (h, x0, x1, x2, x3, x4, x5)
set_option maxRecDepth 20000 in
set_option maxHeartbeats 4000000 in
theorem tFo_plant_32 {g : Gh} {h' : MH} (n : Nat) (h : MH) (x0 : Nat) (x1 : Int32) (x2 : Nat) (x3 : Nat) (x4 : Int32) (x5 : Int32) (hf : fFo_plant_32 n h x0 x1 x2 x3 x4 x5 = some h') : V g yFo_plant cFo_plant 7 none rmFo_plant (ZQ g rmFo_plant h' none) 0 0 h 32 [some (.ref x0), some (.int x1), some (.ref x2), some (.ref x3), some (.int x4), some (.int x5), none] [] := by
  unfold fFo_plant_32 at hf
  refine lp_ind (P := fun s => V g yFo_plant cFo_plant 7 none rmFo_plant (ZQ g rmFo_plant h' none) 0 0 s.1 32 [some (.ref s.2.1), some (.int s.2.2.1), some (.ref s.2.2.2.1), some (.ref s.2.2.2.2.1), some (.int s.2.2.2.2.2.1), some (.int s.2.2.2.2.2.2), none] []) (fun n k32 hk32 s hf => ?_) n (h, x0, x1, x2, x3, x4, x5) hf
  obtain ⟨h, x0, x1, x2, x3, x4, x5⟩ := s
  replace hk32 : ∀ (h : MH) (x0 : Nat) (x1 : Int32) (x2 : Nat) (x3 : Nat) (x4 : Int32) (x5 : Int32), k32 (h, x0, x1, x2, x3, x4, x5) = some h' → V g yFo_plant cFo_plant 7 none rmFo_plant (ZQ g rmFo_plant h' none) 0 0 h 32 [some (.ref x0), some (.int x1), some (.ref x2), some (.ref x3), some (.int x4), some (.int x5), none] [] := fun h x0 x1 x2 x3 x4 x5 => hk32 (h, x0, x1, x2, x3, x4, x5)
  replace hf : bFo_plant_32 n k32 h x0 x1 x2 x3 x4 x5 = some h' := hf
  change V g yFo_plant cFo_plant 7 none rmFo_plant (ZQ g rmFo_plant h' none) 0 0 h 32 [some (.ref x0), some (.int x1), some (.ref x2), some (.ref x3), some (.int x4), some (.int x5), none] []
  unfold bFo_plant_32 at hf
  refine v_iload (pc := 32) dFo_plant_32 rfl ?_
  refine v_if_le (pc := 34) (tgt := 51) dFo_plant_34 rfl hf (fun hf => ?_) (fun hf => ?_)
  · refine v_wk (ls' := [some (.ref x0), some (.int x1), some (.ref x2), some (.ref x3), some (.int x4), some (.int x5), none]) ⟨rfl, rfl, rfl, rfl, rfl, rfl, trivial⟩ ?_
    exact tFo_plant_51 n h x0 x1 x2 x3 x4 x5 hf
  refine v_aload_n (i := 2) (pc := 37) dFo_plant_37 rfl rfl ?_
  refine v_iload (pc := 38) dFo_plant_38 rfl ?_
  refine v_iald (pc := 40) dFo_plant_40 hf (fun i1 hf => ?_)
  refine v_iconst (pc := 41) (1:Int32) dFo_plant_41 rfl ?_
  refine v_icmp_gt (pc := 42) (tgt := 51) dFo_plant_42 rfl hf (fun hf => ?_) (fun hf => ?_)
  · refine v_wk (ls' := [some (.ref x0), some (.int x1), some (.ref x2), some (.ref x3), some (.int x4), some (.int x5), none]) ⟨rfl, rfl, rfl, rfl, rfl, rfl, trivial⟩ ?_
    exact tFo_plant_51 n h x0 x1 x2 x3 x4 x5 hf
  refine v_iinc (pc := 45) (v := (x5 + (-1:Int32))) (ls' := [some (.ref x0), some (.int x1), some (.ref x2), some (.ref x3), some (.int x4), some (.int (x5 + (-1:Int32))), none]) dFo_plant_45 rfl rfl (by decide) rfl ?_
  refine v_goto (pc := 48) (tgt := 32) dFo_plant_48 rfl ?_
  refine v_wk (ls' := [some (.ref x0), some (.int x1), some (.ref x2), some (.ref x3), some (.int x4), some (.int (x5 + (-1:Int32))), none]) ⟨rfl, rfl, rfl, rfl, rfl, rfl, trivial⟩ ?_
  exact hk32 h x0 x1 x2 x3 x4 (x5 + (-1:Int32)) hf
def fFo_plant (n : Nat) (h : MH) (a_0 : Nat) (i_1 : Int32) : Option MH := ((gfR h a_0 [0] 0).bind fun a1 => (rdRn h a1 2 (i_1 - (1:Int32)) (none : Option MH) fun a2 => ((gfR h a_0 [0] 0).bind fun a3 => (rdRn h a3 2 i_1 (none : Option MH) fun a4 => ((gfR h a_0 [0] 1).bind fun a5 => ((rdI h a5 (i_1 - (1:Int32))).bind fun i6 => (fFo_plant_32 n h a_0 i_1 a2 a4 i6 (i6 - (1:Int32)))))))))
set_option maxRecDepth 20000 in
set_option maxHeartbeats 4000000 in
theorem sFo_plant {g : Gh} {h' : MH} {n : Nat} {h : MH} {a_0 : Nat} {i_1 : Int32} (hf : fFo_plant n h a_0 i_1 = some h') : Sp g yFo_plant cFo_plant 7 none rmFo_plant h [.ref a_0, .int i_1] h' none := by
  refine sp_of (by decide) (Nat.le_of_ble_eq_true rfl) ?_
  change V g yFo_plant cFo_plant 7 none rmFo_plant (ZQ g rmFo_plant h' none) 0 0 h 0 [some (.ref a_0), some (.int i_1), none, none, none, none, none] []
  unfold fFo_plant at hf
  refine v_aload_n (i := 0) (pc := 0) dFo_plant_0 rfl rfl ?_
  refine v_getR (pc := 1) fgFo_11 dFo_plant_1 hf (fun a1 hf => ?_)
  refine v_iload_n (i := 1) (pc := 4) dFo_plant_4 rfl rfl ?_
  refine v_iconst (pc := 5) (1:Int32) dFo_plant_5 rfl ?_
  refine v_isub (pc := 6) dFo_plant_6 ?_
  refine v_aald (pc := 7) (Or.inl rfl) dFo_plant_7 hf (fun hf => ?_) (fun a2 hf => ?_)
  · cases hf
  refine v_astore_n (i := 2) (pc := 8) (ls' := [some (.ref a_0), some (.int i_1), some (.ref a2), none, none, none, none]) dFo_plant_8 rfl (by decide) rfl ?_
  refine v_aload_n (i := 0) (pc := 9) dFo_plant_9 rfl rfl ?_
  refine v_getR (pc := 10) fgFo_11 dFo_plant_10 hf (fun a3 hf => ?_)
  refine v_iload_n (i := 1) (pc := 13) dFo_plant_13 rfl rfl ?_
  refine v_aald (pc := 14) (Or.inl rfl) dFo_plant_14 hf (fun hf => ?_) (fun a4 hf => ?_)
  · cases hf
  refine v_astore_n (i := 3) (pc := 15) (ls' := [some (.ref a_0), some (.int i_1), some (.ref a2), some (.ref a4), none, none, none]) dFo_plant_15 rfl (by decide) rfl ?_
  refine v_aload_n (i := 0) (pc := 16) dFo_plant_16 rfl rfl ?_
  refine v_getR (pc := 17) fgFo_16 dFo_plant_17 hf (fun a5 hf => ?_)
  refine v_iload_n (i := 1) (pc := 20) dFo_plant_20 rfl rfl ?_
  refine v_iconst (pc := 21) (1:Int32) dFo_plant_21 rfl ?_
  refine v_isub (pc := 22) dFo_plant_22 ?_
  refine v_iald (pc := 23) dFo_plant_23 hf (fun i6 hf => ?_)
  refine v_istore (pc := 24) (ls' := [some (.ref a_0), some (.int i_1), some (.ref a2), some (.ref a4), some (.int i6), none, none]) dFo_plant_24 (by decide) rfl ?_
  refine v_iload (pc := 26) dFo_plant_26 rfl ?_
  refine v_iconst (pc := 28) (1:Int32) dFo_plant_28 rfl ?_
  refine v_isub (pc := 29) dFo_plant_29 ?_
  refine v_istore (pc := 30) (ls' := [some (.ref a_0), some (.int i_1), some (.ref a2), some (.ref a4), some (.int i6), some (.int (i6 - (1:Int32))), none]) dFo_plant_30 (by decide) rfl ?_
  refine v_wk (ls' := [some (.ref a_0), some (.int i_1), some (.ref a2), some (.ref a4), some (.int i6), some (.int (i6 - (1:Int32))), none]) ⟨rfl, rfl, rfl, rfl, rfl, rfl, trivial⟩ ?_
  exact tFo_plant_32 n h a_0 i_1 a2 a4 i6 (i6 - (1:Int32)) hf
abbrev rmFo_hangingEnd : Room := { frames := 0, cells := 0, slots := 0, locals := 0 }
def bFo_hangingEnd_12 (n : Nat) (k12 : (MH × Nat × Int32 × Int32 × Nat × Int32) → Option (MH × Int32)) (h : MH) (x0 : Nat) (x1 : Int32) (x2 : Int32) (x3 : Nat) (x4 : Int32) : Option (MH × Int32) := ((gfR h x0 [0] 1).bind fun a1 => ((rdI h a1 x1).bind fun i2 => (if i2 ≤ x4 then (some (h, x4)) else ((rdI h x3 x4).bind fun i3 => ((rdI h x3 x2).bind fun i4 => (if i3 ≤ i4 then (some (h, x4)) else (k12 (h, x0, x1, x2, x3, (x4 + (1:Int32))))))))))
def fFo_hangingEnd_12 (n : Nat) (h : MH) (x0 : Nat) (x1 : Int32) (x2 : Int32) (x3 : Nat) (x4 : Int32) : Option (MH × Int32) := lp (fun n k s => bFo_hangingEnd_12 n k s.1 s.2.1 s.2.2.1 s.2.2.2.1 s.2.2.2.2.1 s.2.2.2.2.2) n (h, x0, x1, x2, x3, x4)
set_option maxRecDepth 20000 in
set_option maxHeartbeats 4000000 in
theorem tFo_hangingEnd_12 {g : Gh} {h' : MH} {r' : Int32} (n : Nat) (h : MH) (x0 : Nat) (x1 : Int32) (x2 : Int32) (x3 : Nat) (x4 : Int32) (hf : fFo_hangingEnd_12 n h x0 x1 x2 x3 x4 = some (h', r')) : V g yFo_hangingEnd cFo_hangingEnd 5 (some .int) rmFo_hangingEnd (ZQ g rmFo_hangingEnd h' (some (.int r'))) 0 0 h 12 [some (.ref x0), some (.int x1), some (.int x2), some (.ref x3), some (.int x4)] [] := by
  unfold fFo_hangingEnd_12 at hf
  refine lp_ind (P := fun s => V g yFo_hangingEnd cFo_hangingEnd 5 (some .int) rmFo_hangingEnd (ZQ g rmFo_hangingEnd h' (some (.int r'))) 0 0 s.1 12 [some (.ref s.2.1), some (.int s.2.2.1), some (.int s.2.2.2.1), some (.ref s.2.2.2.2.1), some (.int s.2.2.2.2.2)] []) (fun n k12 hk12 s hf => ?_) n (h, x0, x1, x2, x3, x4) hf
  obtain ⟨h, x0, x1, x2, x3, x4⟩ := s
  replace hk12 : ∀ (h : MH) (x0 : Nat) (x1 : Int32) (x2 : Int32) (x3 : Nat) (x4 : Int32), k12 (h, x0, x1, x2, x3, x4) = some (h', r') → V g yFo_hangingEnd cFo_hangingEnd 5 (some .int) rmFo_hangingEnd (ZQ g rmFo_hangingEnd h' (some (.int r'))) 0 0 h 12 [some (.ref x0), some (.int x1), some (.int x2), some (.ref x3), some (.int x4)] [] := fun h x0 x1 x2 x3 x4 => hk12 (h, x0, x1, x2, x3, x4)
  replace hf : bFo_hangingEnd_12 n k12 h x0 x1 x2 x3 x4 = some (h', r') := hf
  change V g yFo_hangingEnd cFo_hangingEnd 5 (some .int) rmFo_hangingEnd (ZQ g rmFo_hangingEnd h' (some (.int r'))) 0 0 h 12 [some (.ref x0), some (.int x1), some (.int x2), some (.ref x3), some (.int x4)] []
  unfold bFo_hangingEnd_12 at hf
  refine v_iload (pc := 12) dFo_hangingEnd_12 rfl ?_
  refine v_aload_n (i := 0) (pc := 14) dFo_hangingEnd_14 rfl rfl ?_
  refine v_getR (pc := 15) fgFo_16 dFo_hangingEnd_15 hf (fun a1 hf => ?_)
  refine v_iload_n (i := 1) (pc := 18) dFo_hangingEnd_18 rfl rfl ?_
  refine v_iald (pc := 19) dFo_hangingEnd_19 hf (fun i2 hf => ?_)
  refine v_icmp_ge (pc := 20) (tgt := 39) dFo_hangingEnd_20 rfl hf (fun hf => ?_) (fun hf => ?_)
  · refine v_iload (pc := 39) dFo_hangingEnd_39 rfl ?_
    exact v_iret (pc := 41) dFo_hangingEnd_41 (by decide) (by decide) hf
  refine v_aload_n (i := 3) (pc := 23) dFo_hangingEnd_23 rfl rfl ?_
  refine v_iload (pc := 24) dFo_hangingEnd_24 rfl ?_
  refine v_iald (pc := 26) dFo_hangingEnd_26 hf (fun i3 hf => ?_)
  refine v_aload_n (i := 3) (pc := 27) dFo_hangingEnd_27 rfl rfl ?_
  refine v_iload_n (i := 2) (pc := 28) dFo_hangingEnd_28 rfl rfl ?_
  refine v_iald (pc := 29) dFo_hangingEnd_29 hf (fun i4 hf => ?_)
  refine v_icmp_le (pc := 30) (tgt := 39) dFo_hangingEnd_30 rfl hf (fun hf => ?_) (fun hf => ?_)
  · refine v_iload (pc := 39) dFo_hangingEnd_39 rfl ?_
    exact v_iret (pc := 41) dFo_hangingEnd_41 (by decide) (by decide) hf
  refine v_iinc (pc := 33) (v := (x4 + (1:Int32))) (ls' := [some (.ref x0), some (.int x1), some (.int x2), some (.ref x3), some (.int (x4 + (1:Int32)))]) dFo_hangingEnd_33 rfl rfl (by decide) rfl ?_
  refine v_goto (pc := 36) (tgt := 12) dFo_hangingEnd_36 rfl ?_
  refine v_wk (ls' := [some (.ref x0), some (.int x1), some (.int x2), some (.ref x3), some (.int (x4 + (1:Int32)))]) ⟨rfl, rfl, rfl, rfl, rfl, trivial⟩ ?_
  exact hk12 h x0 x1 x2 x3 (x4 + (1:Int32)) hf
def fFo_hangingEnd (n : Nat) (h : MH) (a_0 : Nat) (i_1 : Int32) (i_2 : Int32) : Option (MH × Int32) := ((gfR h a_0 [0] 0).bind fun a1 => (rdRn h a1 2 i_1 (none : Option (MH × Int32)) fun a2 => (fFo_hangingEnd_12 n h a_0 i_1 i_2 a2 (i_2 + (1:Int32)))))
set_option maxRecDepth 20000 in
set_option maxHeartbeats 4000000 in
theorem sFo_hangingEnd {g : Gh} {h' : MH} {r' : Int32} {n : Nat} {h : MH} {a_0 : Nat} {i_1 : Int32} {i_2 : Int32} (hf : fFo_hangingEnd n h a_0 i_1 i_2 = some (h', r')) : Sp g yFo_hangingEnd cFo_hangingEnd 5 (some .int) rmFo_hangingEnd h [.ref a_0, .int i_1, .int i_2] h' (some (.int r')) := by
  refine sp_of (by decide) (Nat.le_of_ble_eq_true rfl) ?_
  change V g yFo_hangingEnd cFo_hangingEnd 5 (some .int) rmFo_hangingEnd (ZQ g rmFo_hangingEnd h' (some (.int r'))) 0 0 h 0 [some (.ref a_0), some (.int i_1), some (.int i_2), none, none] []
  unfold fFo_hangingEnd at hf
  refine v_aload_n (i := 0) (pc := 0) dFo_hangingEnd_0 rfl rfl ?_
  refine v_getR (pc := 1) fgFo_11 dFo_hangingEnd_1 hf (fun a1 hf => ?_)
  refine v_iload_n (i := 1) (pc := 4) dFo_hangingEnd_4 rfl rfl ?_
  refine v_aald (pc := 5) (Or.inl rfl) dFo_hangingEnd_5 hf (fun hf => ?_) (fun a2 hf => ?_)
  · cases hf
  refine v_astore_n (i := 3) (pc := 6) (ls' := [some (.ref a_0), some (.int i_1), some (.int i_2), some (.ref a2), none]) dFo_hangingEnd_6 rfl (by decide) rfl ?_
  refine v_iload_n (i := 2) (pc := 7) dFo_hangingEnd_7 rfl rfl ?_
  refine v_iconst (pc := 8) (1:Int32) dFo_hangingEnd_8 rfl ?_
  refine v_iadd (pc := 9) dFo_hangingEnd_9 ?_
  refine v_istore (pc := 10) (ls' := [some (.ref a_0), some (.int i_1), some (.int i_2), some (.ref a2), some (.int (i_2 + (1:Int32)))]) dFo_hangingEnd_10 (by decide) rfl ?_
  refine v_wk (ls' := [some (.ref a_0), some (.int i_1), some (.int i_2), some (.ref a2), some (.int (i_2 + (1:Int32)))]) ⟨rfl, rfl, rfl, rfl, rfl, trivial⟩ ?_
  exact tFo_hangingEnd_12 n h a_0 i_1 i_2 a2 (i_2 + (1:Int32)) hf
abbrev rmFo_numbered : Room := { frames := 0, cells := 0, slots := 0, locals := 0 }
def bFo_numbered_2 (n : Nat) (k2 : (MH × Nat × Int32 × Int32) → Option (MH × Int32)) (h : MH) (x0 : Nat) (x1 : Int32) (x2 : Int32) : Option (MH × Int32) := (if (37:Int32) ≤ x2 then (some (h, (0:Int32))) else ((gfR h x0 [0] 8).bind fun a1 => ((rdI h a1 x2).bind fun i2 => (if i2 = x1 then (some (h, x2)) else (k2 (h, x0, x1, (x2 + (1:Int32))))))))
def fFo_numbered_2 (n : Nat) (h : MH) (x0 : Nat) (x1 : Int32) (x2 : Int32) : Option (MH × Int32) := lp (fun n k s => bFo_numbered_2 n k s.1 s.2.1 s.2.2.1 s.2.2.2) n (h, x0, x1, x2)
set_option maxRecDepth 20000 in
set_option maxHeartbeats 4000000 in
theorem tFo_numbered_2 {g : Gh} {h' : MH} {r' : Int32} (n : Nat) (h : MH) (x0 : Nat) (x1 : Int32) (x2 : Int32) (hf : fFo_numbered_2 n h x0 x1 x2 = some (h', r')) : V g yFo_numbered cFo_numbered 3 (some .int) rmFo_numbered (ZQ g rmFo_numbered h' (some (.int r'))) 0 0 h 2 [some (.ref x0), some (.int x1), some (.int x2)] [] := by
  unfold fFo_numbered_2 at hf
  refine lp_ind (P := fun s => V g yFo_numbered cFo_numbered 3 (some .int) rmFo_numbered (ZQ g rmFo_numbered h' (some (.int r'))) 0 0 s.1 2 [some (.ref s.2.1), some (.int s.2.2.1), some (.int s.2.2.2)] []) (fun n k2 hk2 s hf => ?_) n (h, x0, x1, x2) hf
  obtain ⟨h, x0, x1, x2⟩ := s
  replace hk2 : ∀ (h : MH) (x0 : Nat) (x1 : Int32) (x2 : Int32), k2 (h, x0, x1, x2) = some (h', r') → V g yFo_numbered cFo_numbered 3 (some .int) rmFo_numbered (ZQ g rmFo_numbered h' (some (.int r'))) 0 0 h 2 [some (.ref x0), some (.int x1), some (.int x2)] [] := fun h x0 x1 x2 => hk2 (h, x0, x1, x2)
  replace hf : bFo_numbered_2 n k2 h x0 x1 x2 = some (h', r') := hf
  change V g yFo_numbered cFo_numbered 3 (some .int) rmFo_numbered (ZQ g rmFo_numbered h' (some (.int r'))) 0 0 h 2 [some (.ref x0), some (.int x1), some (.int x2)] []
  unfold bFo_numbered_2 at hf
  refine v_iload_n (i := 2) (pc := 2) dFo_numbered_2 rfl rfl ?_
  refine v_bipush (pc := 3) (37:Int32) dFo_numbered_3 rfl ?_
  refine v_icmp_ge (pc := 5) (tgt := 26) dFo_numbered_5 rfl hf (fun hf => ?_) (fun hf => ?_)
  · refine v_iconst (pc := 26) (0:Int32) dFo_numbered_26 rfl ?_
    exact v_iret (pc := 27) dFo_numbered_27 (by decide) (by decide) hf
  refine v_aload_n (i := 0) (pc := 8) dFo_numbered_8 rfl rfl ?_
  refine v_getR (pc := 9) fgFo_38 dFo_numbered_9 hf (fun a1 hf => ?_)
  refine v_iload_n (i := 2) (pc := 12) dFo_numbered_12 rfl rfl ?_
  refine v_iald (pc := 13) dFo_numbered_13 hf (fun i2 hf => ?_)
  refine v_iload_n (i := 1) (pc := 14) dFo_numbered_14 rfl rfl ?_
  refine v_icmp_ne (pc := 15) (tgt := 20) dFo_numbered_15 rfl hf (fun hf => ?_) (fun hf => ?_)
  · refine v_iload_n (i := 2) (pc := 18) dFo_numbered_18 rfl rfl ?_
    exact v_iret (pc := 19) dFo_numbered_19 (by decide) (by decide) hf
  refine v_iinc (pc := 20) (v := (x2 + (1:Int32))) (ls' := [some (.ref x0), some (.int x1), some (.int (x2 + (1:Int32)))]) dFo_numbered_20 rfl rfl (by decide) rfl ?_
  refine v_goto (pc := 23) (tgt := 2) dFo_numbered_23 rfl ?_
  refine v_wk (ls' := [some (.ref x0), some (.int x1), some (.int (x2 + (1:Int32)))]) ⟨rfl, rfl, rfl, trivial⟩ ?_
  exact hk2 h x0 x1 (x2 + (1:Int32)) hf
def fFo_numbered (n : Nat) (h : MH) (a_0 : Nat) (i_1 : Int32) : Option (MH × Int32) := (fFo_numbered_2 n h a_0 i_1 (0:Int32))
set_option maxRecDepth 20000 in
set_option maxHeartbeats 4000000 in
theorem sFo_numbered {g : Gh} {h' : MH} {r' : Int32} {n : Nat} {h : MH} {a_0 : Nat} {i_1 : Int32} (hf : fFo_numbered n h a_0 i_1 = some (h', r')) : Sp g yFo_numbered cFo_numbered 3 (some .int) rmFo_numbered h [.ref a_0, .int i_1] h' (some (.int r')) := by
  refine sp_of (by decide) (Nat.le_of_ble_eq_true rfl) ?_
  change V g yFo_numbered cFo_numbered 3 (some .int) rmFo_numbered (ZQ g rmFo_numbered h' (some (.int r'))) 0 0 h 0 [some (.ref a_0), some (.int i_1), none] []
  unfold fFo_numbered at hf
  refine v_iconst (pc := 0) (0:Int32) dFo_numbered_0 rfl ?_
  refine v_istore_n (i := 2) (pc := 1) (ls' := [some (.ref a_0), some (.int i_1), some (.int (0:Int32))]) dFo_numbered_1 rfl (by decide) rfl ?_
  refine v_wk (ls' := [some (.ref a_0), some (.int i_1), some (.int (0:Int32))]) ⟨rfl, rfl, rfl, trivial⟩ ?_
  exact tFo_numbered_2 n h a_0 i_1 (0:Int32) hf
abbrev rmFo_codeWithout : Room := { frames := 0, cells := 0, slots := 0, locals := 0 }
def fFo_codeWithout_36 (k6 : (MH × Nat × Int32 × Int32 × Int32 × Int32 × Int32) → Option (MH × Int32)) (n : Nat) (h : MH) (x0 : Nat) (x1 : Int32) (x2 : Int32) (x3 : Int32) (x4 : Int32) (x5 : Int32) : Option (MH × Int32) := (k6 (h, x0, x1, x2, x3, x4, (x5 + (1:Int32))))
set_option maxRecDepth 20000 in
set_option maxHeartbeats 4000000 in
theorem tFo_codeWithout_36 {g : Gh} {h' : MH} {r' : Int32} {k6 : (MH × Nat × Int32 × Int32 × Int32 × Int32 × Int32) → Option (MH × Int32)} (hk6 : ∀ (h : MH) (x0 : Nat) (x1 : Int32) (x2 : Int32) (x3 : Int32) (x4 : Int32) (x5 : Int32), k6 (h, x0, x1, x2, x3, x4, x5) = some (h', r') → V g yFo_codeWithout cFo_codeWithout 6 (some .int) rmFo_codeWithout (ZQ g rmFo_codeWithout h' (some (.int r'))) 0 0 h 6 [some (.ref x0), some (.int x1), some (.int x2), some (.int x3), some (.int x4), some (.int x5)] []) (n : Nat) (h : MH) (x0 : Nat) (x1 : Int32) (x2 : Int32) (x3 : Int32) (x4 : Int32) (x5 : Int32) (hf : fFo_codeWithout_36 k6 n h x0 x1 x2 x3 x4 x5 = some (h', r')) : V g yFo_codeWithout cFo_codeWithout 6 (some .int) rmFo_codeWithout (ZQ g rmFo_codeWithout h' (some (.int r'))) 0 0 h 36 [some (.ref x0), some (.int x1), some (.int x2), some (.int x3), some (.int x4), some (.int x5)] [] := by
  unfold fFo_codeWithout_36 at hf
  refine v_iinc (pc := 36) (v := (x5 + (1:Int32))) (ls' := [some (.ref x0), some (.int x1), some (.int x2), some (.int x3), some (.int x4), some (.int (x5 + (1:Int32)))]) dFo_codeWithout_36 rfl rfl (by decide) rfl ?_
  refine v_goto (pc := 39) (tgt := 6) dFo_codeWithout_39 rfl ?_
  refine v_wk (ls' := [some (.ref x0), some (.int x1), some (.int x2), some (.int x3), some (.int x4), some (.int (x5 + (1:Int32)))]) ⟨rfl, rfl, rfl, rfl, rfl, rfl, trivial⟩ ?_
  exact hk6 h x0 x1 x2 x3 x4 (x5 + (1:Int32)) hf
def fFo_codeWithout_24 (k6 : (MH × Nat × Int32 × Int32 × Int32 × Int32 × Int32) → Option (MH × Int32)) (n : Nat) (h : MH) (x0 : Nat) (x1 : Int32) (x2 : Int32) (x3 : Int32) (x4 : Int32) (x5 : Int32) : Option (MH × Int32) := ((rdI h x0 x5).bind fun i1 => (fFo_codeWithout_36 k6 n h x0 x1 x2 x3 ((x4 * (8:Int32)) + i1) x5))
set_option maxRecDepth 20000 in
set_option maxHeartbeats 4000000 in
theorem tFo_codeWithout_24 {g : Gh} {h' : MH} {r' : Int32} {k6 : (MH × Nat × Int32 × Int32 × Int32 × Int32 × Int32) → Option (MH × Int32)} (hk6 : ∀ (h : MH) (x0 : Nat) (x1 : Int32) (x2 : Int32) (x3 : Int32) (x4 : Int32) (x5 : Int32), k6 (h, x0, x1, x2, x3, x4, x5) = some (h', r') → V g yFo_codeWithout cFo_codeWithout 6 (some .int) rmFo_codeWithout (ZQ g rmFo_codeWithout h' (some (.int r'))) 0 0 h 6 [some (.ref x0), some (.int x1), some (.int x2), some (.int x3), some (.int x4), some (.int x5)] []) (n : Nat) (h : MH) (x0 : Nat) (x1 : Int32) (x2 : Int32) (x3 : Int32) (x4 : Int32) (x5 : Int32) (hf : fFo_codeWithout_24 k6 n h x0 x1 x2 x3 x4 x5 = some (h', r')) : V g yFo_codeWithout cFo_codeWithout 6 (some .int) rmFo_codeWithout (ZQ g rmFo_codeWithout h' (some (.int r'))) 0 0 h 24 [some (.ref x0), some (.int x1), some (.int x2), some (.int x3), some (.int x4), some (.int x5)] [] := by
  unfold fFo_codeWithout_24 at hf
  refine v_iload (pc := 24) dFo_codeWithout_24 rfl ?_
  refine v_bipush (pc := 26) (8:Int32) dFo_codeWithout_26 rfl ?_
  refine v_imul (pc := 28) dFo_codeWithout_28 ?_
  refine v_aload_n (i := 0) (pc := 29) dFo_codeWithout_29 rfl rfl ?_
  refine v_iload (pc := 30) dFo_codeWithout_30 rfl ?_
  refine v_iald (pc := 32) dFo_codeWithout_32 hf (fun i1 hf => ?_)
  refine v_iadd (pc := 33) dFo_codeWithout_33 ?_
  refine v_istore (pc := 34) (ls' := [some (.ref x0), some (.int x1), some (.int x2), some (.int x3), some (.int ((x4 * (8:Int32)) + i1)), some (.int x5)]) dFo_codeWithout_34 (by decide) rfl ?_
  refine v_wk (ls' := [some (.ref x0), some (.int x1), some (.int x2), some (.int x3), some (.int ((x4 * (8:Int32)) + i1)), some (.int x5)]) ⟨rfl, rfl, rfl, rfl, rfl, rfl, trivial⟩ ?_
  exact tFo_codeWithout_36 hk6 n h x0 x1 x2 x3 ((x4 * (8:Int32)) + i1) x5 hf
def bFo_codeWithout_6 (n : Nat) (k6 : (MH × Nat × Int32 × Int32 × Int32 × Int32 × Int32) → Option (MH × Int32)) (h : MH) (x0 : Nat) (x1 : Int32) (x2 : Int32) (x3 : Int32) (x4 : Int32) (x5 : Int32) : Option (MH × Int32) := (if x1 ≤ x5 then (some (h, x4)) else (if x5 < x2 then (fFo_codeWithout_24 k6 n h x0 x1 x2 x3 x4 x5) else (if x5 < x3 then (fFo_codeWithout_36 k6 n h x0 x1 x2 x3 x4 x5) else (fFo_codeWithout_24 k6 n h x0 x1 x2 x3 x4 x5))))
def fFo_codeWithout_6 (n : Nat) (h : MH) (x0 : Nat) (x1 : Int32) (x2 : Int32) (x3 : Int32) (x4 : Int32) (x5 : Int32) : Option (MH × Int32) := lp (fun n k s => bFo_codeWithout_6 n k s.1 s.2.1 s.2.2.1 s.2.2.2.1 s.2.2.2.2.1 s.2.2.2.2.2.1 s.2.2.2.2.2.2) n (h, x0, x1, x2, x3, x4, x5)
set_option maxRecDepth 20000 in
set_option maxHeartbeats 4000000 in
theorem tFo_codeWithout_6 {g : Gh} {h' : MH} {r' : Int32} (n : Nat) (h : MH) (x0 : Nat) (x1 : Int32) (x2 : Int32) (x3 : Int32) (x4 : Int32) (x5 : Int32) (hf : fFo_codeWithout_6 n h x0 x1 x2 x3 x4 x5 = some (h', r')) : V g yFo_codeWithout cFo_codeWithout 6 (some .int) rmFo_codeWithout (ZQ g rmFo_codeWithout h' (some (.int r'))) 0 0 h 6 [some (.ref x0), some (.int x1), some (.int x2), some (.int x3), some (.int x4), some (.int x5)] [] := by
  unfold fFo_codeWithout_6 at hf
  refine lp_ind (P := fun s => V g yFo_codeWithout cFo_codeWithout 6 (some .int) rmFo_codeWithout (ZQ g rmFo_codeWithout h' (some (.int r'))) 0 0 s.1 6 [some (.ref s.2.1), some (.int s.2.2.1), some (.int s.2.2.2.1), some (.int s.2.2.2.2.1), some (.int s.2.2.2.2.2.1), some (.int s.2.2.2.2.2.2)] []) (fun n k6 hk6 s hf => ?_) n (h, x0, x1, x2, x3, x4, x5) hf
  obtain ⟨h, x0, x1, x2, x3, x4, x5⟩ := s
  replace hk6 : ∀ (h : MH) (x0 : Nat) (x1 : Int32) (x2 : Int32) (x3 : Int32) (x4 : Int32) (x5 : Int32), k6 (h, x0, x1, x2, x3, x4, x5) = some (h', r') → V g yFo_codeWithout cFo_codeWithout 6 (some .int) rmFo_codeWithout (ZQ g rmFo_codeWithout h' (some (.int r'))) 0 0 h 6 [some (.ref x0), some (.int x1), some (.int x2), some (.int x3), some (.int x4), some (.int x5)] [] := fun h x0 x1 x2 x3 x4 x5 => hk6 (h, x0, x1, x2, x3, x4, x5)
  replace hf : bFo_codeWithout_6 n k6 h x0 x1 x2 x3 x4 x5 = some (h', r') := hf
  change V g yFo_codeWithout cFo_codeWithout 6 (some .int) rmFo_codeWithout (ZQ g rmFo_codeWithout h' (some (.int r'))) 0 0 h 6 [some (.ref x0), some (.int x1), some (.int x2), some (.int x3), some (.int x4), some (.int x5)] []
  unfold bFo_codeWithout_6 at hf
  refine v_iload (pc := 6) dFo_codeWithout_6 rfl ?_
  refine v_iload_n (i := 1) (pc := 8) dFo_codeWithout_8 rfl rfl ?_
  refine v_icmp_ge (pc := 9) (tgt := 42) dFo_codeWithout_9 rfl hf (fun hf => ?_) (fun hf => ?_)
  · refine v_iload (pc := 42) dFo_codeWithout_42 rfl ?_
    exact v_iret (pc := 44) dFo_codeWithout_44 (by decide) (by decide) hf
  refine v_iload (pc := 12) dFo_codeWithout_12 rfl ?_
  refine v_iload_n (i := 2) (pc := 14) dFo_codeWithout_14 rfl rfl ?_
  refine v_icmp_lt (pc := 15) (tgt := 24) dFo_codeWithout_15 rfl hf (fun hf => ?_) (fun hf => ?_)
  · refine v_wk (ls' := [some (.ref x0), some (.int x1), some (.int x2), some (.int x3), some (.int x4), some (.int x5)]) ⟨rfl, rfl, rfl, rfl, rfl, rfl, trivial⟩ ?_
    exact tFo_codeWithout_24 hk6 n h x0 x1 x2 x3 x4 x5 hf
  refine v_iload (pc := 18) dFo_codeWithout_18 rfl ?_
  refine v_iload_n (i := 3) (pc := 20) dFo_codeWithout_20 rfl rfl ?_
  refine v_icmp_lt (pc := 21) (tgt := 36) dFo_codeWithout_21 rfl hf (fun hf => ?_) (fun hf => ?_)
  · refine v_wk (ls' := [some (.ref x0), some (.int x1), some (.int x2), some (.int x3), some (.int x4), some (.int x5)]) ⟨rfl, rfl, rfl, rfl, rfl, rfl, trivial⟩ ?_
    exact tFo_codeWithout_36 hk6 n h x0 x1 x2 x3 x4 x5 hf
  refine v_wk (ls' := [some (.ref x0), some (.int x1), some (.int x2), some (.int x3), some (.int x4), some (.int x5)]) ⟨rfl, rfl, rfl, rfl, rfl, rfl, trivial⟩ ?_
  exact tFo_codeWithout_24 hk6 n h x0 x1 x2 x3 x4 x5 hf
def fFo_codeWithout (n : Nat) (h : MH) (a_0 : Nat) (i_1 : Int32) (i_2 : Int32) (i_3 : Int32) : Option (MH × Int32) := (fFo_codeWithout_6 n h a_0 i_1 i_2 i_3 (1:Int32) (0:Int32))
set_option maxRecDepth 20000 in
set_option maxHeartbeats 4000000 in
theorem sFo_codeWithout {g : Gh} {h' : MH} {r' : Int32} {n : Nat} {h : MH} {a_0 : Nat} {i_1 : Int32} {i_2 : Int32} {i_3 : Int32} (hf : fFo_codeWithout n h a_0 i_1 i_2 i_3 = some (h', r')) : Sp g yFo_codeWithout cFo_codeWithout 6 (some .int) rmFo_codeWithout h [.ref a_0, .int i_1, .int i_2, .int i_3] h' (some (.int r')) := by
  refine sp_of (by decide) (Nat.le_of_ble_eq_true rfl) ?_
  change V g yFo_codeWithout cFo_codeWithout 6 (some .int) rmFo_codeWithout (ZQ g rmFo_codeWithout h' (some (.int r'))) 0 0 h 0 [some (.ref a_0), some (.int i_1), some (.int i_2), some (.int i_3), none, none] []
  unfold fFo_codeWithout at hf
  refine v_iconst (pc := 0) (1:Int32) dFo_codeWithout_0 rfl ?_
  refine v_istore (pc := 1) (ls' := [some (.ref a_0), some (.int i_1), some (.int i_2), some (.int i_3), some (.int (1:Int32)), none]) dFo_codeWithout_1 (by decide) rfl ?_
  refine v_iconst (pc := 3) (0:Int32) dFo_codeWithout_3 rfl ?_
  refine v_istore (pc := 4) (ls' := [some (.ref a_0), some (.int i_1), some (.int i_2), some (.int i_3), some (.int (1:Int32)), some (.int (0:Int32))]) dFo_codeWithout_4 (by decide) rfl ?_
  refine v_wk (ls' := [some (.ref a_0), some (.int i_1), some (.int i_2), some (.int i_3), some (.int (1:Int32)), some (.int (0:Int32))]) ⟨rfl, rfl, rfl, rfl, rfl, rfl, trivial⟩ ?_
  exact tFo_codeWithout_6 n h a_0 i_1 i_2 i_3 (1:Int32) (0:Int32) hf
abbrev rmFo_takeApart : Room := { frames := 1, cells := 0, slots := 0, locals := 25 }
def fFo_takeApart_94 (k9 : (MH × Nat × Int32 × Nat × Int32) → Option MH) (n : Nat) (h : MH) (x0 : Nat) (x1 : Int32) (x2 : Nat) (x3 : Int32) : Option MH := (k9 (h, x0, x1, x2, (x3 + (1:Int32))))
set_option maxRecDepth 20000 in
set_option maxHeartbeats 4000000 in
theorem tFo_takeApart_94 {g : Gh} {h' : MH} {k9 : (MH × Nat × Int32 × Nat × Int32) → Option MH} (hk9 : ∀ (h : MH) (x0 : Nat) (x1 : Int32) (x2 : Nat) (x3 : Int32), k9 (h, x0, x1, x2, x3) = some h' → V g yFo_takeApart cFo_takeApart 7 none rmFo_takeApart (ZQ g rmFo_takeApart h' none) 0 0 h 9 [some (.ref x0), some (.int x1), some (.ref x2), some (.int x3), none, none, none] []) (n : Nat) (h : MH) (x0 : Nat) (x1 : Int32) (x2 : Nat) (x3 : Int32) (hf : fFo_takeApart_94 k9 n h x0 x1 x2 x3 = some h') : V g yFo_takeApart cFo_takeApart 7 none rmFo_takeApart (ZQ g rmFo_takeApart h' none) 0 0 h 94 [some (.ref x0), some (.int x1), some (.ref x2), some (.int x3), none, none, none] [] := by
  unfold fFo_takeApart_94 at hf
  refine v_iinc (pc := 94) (v := (x3 + (1:Int32))) (ls' := [some (.ref x0), some (.int x1), some (.ref x2), some (.int (x3 + (1:Int32))), none, none, none]) dFo_takeApart_94 rfl rfl (by decide) rfl ?_
  refine v_goto (pc := 97) (tgt := 9) dFo_takeApart_97 rfl ?_
  refine v_wk (ls' := [some (.ref x0), some (.int x1), some (.ref x2), some (.int (x3 + (1:Int32))), none, none, none]) ⟨rfl, rfl, rfl, rfl, trivial⟩ ?_
  exact hk9 h x0 x1 x2 (x3 + (1:Int32)) hf
def bFo_takeApart_9 (n : Nat) (k9 : (MH × Nat × Int32 × Nat × Int32) → Option MH) (h : MH) (x0 : Nat) (x1 : Int32) (x2 : Nat) (x3 : Int32) : Option MH := ((gfR h x0 [0] 1).bind fun a1 => ((rdI h a1 x1).bind fun i2 => (if i2 ≤ x3 then (some h) else ((rdI h x2 x3).bind fun i3 => (if i3 = (1:Int32) then ((chk h x0 0).bind fun _ => (bnd2 (fFo_hangingEnd n h x0 x1 x3) fun h4 i5 => (bnd2 (fFo_code n h4 x2 x3 i5 (1:Int32)) fun h6 i7 => ((chk h6 x0 0).bind fun _ => (bnd2 (fFo_numbered n h6 x0 i7) fun h8 i9 => ((gfR h8 x0 [0] 1).bind fun a10 => ((rdI h8 a10 x1).bind fun i11 => (bnd2 (fFo_codeWithout n h8 x2 i11 x3 i5) fun h12 i13 => ((chk h12 x0 0).bind fun _ => (bnd2 (fFo_numbered n h12 x0 i13) fun h14 i15 => ((gfR h14 x0 [0] 7).bind fun a16 => (rdRn h14 a16 2 i15 (none : Option MH) fun a17 => ((wrI h14 a17 i9 x1).bind fun h18 => ((gfR h18 x0 [0] 5).bind fun a19 => ((wrI h18 a19 x1 i15).bind fun h20 => ((gfR h20 x0 [0] 6).bind fun a21 => ((wrI h20 a21 x1 i9).bind fun h22 => (fFo_takeApart_94 k9 n h22 x0 x1 x2 x3)))))))))))))))))) else (fFo_takeApart_94 k9 n h x0 x1 x2 x3))))))
def fFo_takeApart_9 (n : Nat) (h : MH) (x0 : Nat) (x1 : Int32) (x2 : Nat) (x3 : Int32) : Option MH := lp (fun n k s => bFo_takeApart_9 n k s.1 s.2.1 s.2.2.1 s.2.2.2.1 s.2.2.2.2) n (h, x0, x1, x2, x3)
set_option maxRecDepth 20000 in
set_option maxHeartbeats 4000000 in
theorem tFo_takeApart_9 {g : Gh} {h' : MH} (n : Nat) (h : MH) (x0 : Nat) (x1 : Int32) (x2 : Nat) (x3 : Int32) (hf : fFo_takeApart_9 n h x0 x1 x2 x3 = some h') : V g yFo_takeApart cFo_takeApart 7 none rmFo_takeApart (ZQ g rmFo_takeApart h' none) 0 0 h 9 [some (.ref x0), some (.int x1), some (.ref x2), some (.int x3), none, none, none] [] := by
  unfold fFo_takeApart_9 at hf
  refine lp_ind (P := fun s => V g yFo_takeApart cFo_takeApart 7 none rmFo_takeApart (ZQ g rmFo_takeApart h' none) 0 0 s.1 9 [some (.ref s.2.1), some (.int s.2.2.1), some (.ref s.2.2.2.1), some (.int s.2.2.2.2), none, none, none] []) (fun n k9 hk9 s hf => ?_) n (h, x0, x1, x2, x3) hf
  obtain ⟨h, x0, x1, x2, x3⟩ := s
  replace hk9 : ∀ (h : MH) (x0 : Nat) (x1 : Int32) (x2 : Nat) (x3 : Int32), k9 (h, x0, x1, x2, x3) = some h' → V g yFo_takeApart cFo_takeApart 7 none rmFo_takeApart (ZQ g rmFo_takeApart h' none) 0 0 h 9 [some (.ref x0), some (.int x1), some (.ref x2), some (.int x3), none, none, none] [] := fun h x0 x1 x2 x3 => hk9 (h, x0, x1, x2, x3)
  replace hf : bFo_takeApart_9 n k9 h x0 x1 x2 x3 = some h' := hf
  change V g yFo_takeApart cFo_takeApart 7 none rmFo_takeApart (ZQ g rmFo_takeApart h' none) 0 0 h 9 [some (.ref x0), some (.int x1), some (.ref x2), some (.int x3), none, none, none] []
  unfold bFo_takeApart_9 at hf
  refine v_iload_n (i := 3) (pc := 9) dFo_takeApart_9 rfl rfl ?_
  refine v_aload_n (i := 0) (pc := 10) dFo_takeApart_10 rfl rfl ?_
  refine v_getR (pc := 11) fgFo_16 dFo_takeApart_11 hf (fun a1 hf => ?_)
  refine v_iload_n (i := 1) (pc := 14) dFo_takeApart_14 rfl rfl ?_
  refine v_iald (pc := 15) dFo_takeApart_15 hf (fun i2 hf => ?_)
  refine v_icmp_ge (pc := 16) (tgt := 100) dFo_takeApart_16 rfl hf (fun hf => ?_) (fun hf => ?_)
  · exact v_vret (pc := 100) dFo_takeApart_100 (by decide) (by decide) hf
  refine v_aload_n (i := 2) (pc := 19) dFo_takeApart_19 rfl rfl ?_
  refine v_iload_n (i := 3) (pc := 20) dFo_takeApart_20 rfl rfl ?_
  refine v_iald (pc := 21) dFo_takeApart_21 hf (fun i3 hf => ?_)
  refine v_iconst (pc := 22) (1:Int32) dFo_takeApart_22 rfl ?_
  refine v_icmp_ne (pc := 23) (tgt := 94) dFo_takeApart_23 rfl hf (fun hf => ?_) (fun hf => ?_)
  rotate_left
  · refine v_wk (ls' := [some (.ref x0), some (.int x1), some (.ref x2), some (.int x3), none, none, none]) ⟨rfl, rfl, rfl, rfl, trivial⟩ ?_
    exact tFo_takeApart_94 hk9 n h x0 x1 x2 x3 hf
  refine v_aload_n (i := 0) (pc := 26) dFo_takeApart_26 rfl rfl ?_
  refine v_iload_n (i := 1) (pc := 27) dFo_takeApart_27 rfl rfl ?_
  refine v_iload_n (i := 3) (pc := 28) dFo_takeApart_28 rfl rfl ?_
  obtain ⟨u30, cu30, hf⟩ := bnd hf
  obtain ⟨h4, i5, e29, hf⟩ := bndp hf
  refine v_M1 (pc := 29) (As := [.int x1, .int x3]) (rest := []) lmFo_63 cu30 (sFo_hangingEnd e29) ⟨Nat.le_of_ble_eq_true rfl, Nat.le_of_ble_eq_true rfl, Nat.le_of_ble_eq_true rfl, Nat.le_of_ble_eq_true rfl⟩ dFo_takeApart_29 rfl rfl (Nat.le_of_ble_eq_true rfl) ?_
  refine v_istore (pc := 32) (ls' := [some (.ref x0), some (.int x1), some (.ref x2), some (.int x3), some (.int i5), none, none]) dFo_takeApart_32 (by decide) rfl ?_
  refine v_aload_n (i := 0) (pc := 34) dFo_takeApart_34 rfl rfl ?_
  refine v_aload_n (i := 2) (pc := 35) dFo_takeApart_35 rfl rfl ?_
  refine v_iload_n (i := 3) (pc := 36) dFo_takeApart_36 rfl rfl ?_
  refine v_iload (pc := 37) dFo_takeApart_37 rfl ?_
  refine v_iconst (pc := 39) (1:Int32) dFo_takeApart_39 rfl ?_
  obtain ⟨h6, i7, e28, hf⟩ := bndp hf
  refine v_S1 (pc := 40) (As := [.ref x2, .int x3, .int i5, .int (1:Int32)]) (rest := [.ref x0]) lsFo_55 (sFo_code e28) ⟨Nat.le_of_ble_eq_true rfl, Nat.le_of_ble_eq_true rfl, Nat.le_of_ble_eq_true rfl, Nat.le_of_ble_eq_true rfl⟩ dFo_takeApart_40 rfl rfl (Nat.le_of_ble_eq_true rfl) ?_
  obtain ⟨u27, cu27, hf⟩ := bnd hf
  obtain ⟨h8, i9, e26, hf⟩ := bndp hf
  refine v_M1 (pc := 43) (As := [.int i7]) (rest := []) lmFo_67 cu27 (sFo_numbered e26) ⟨Nat.le_of_ble_eq_true rfl, Nat.le_of_ble_eq_true rfl, Nat.le_of_ble_eq_true rfl, Nat.le_of_ble_eq_true rfl⟩ dFo_takeApart_43 rfl rfl (Nat.le_of_ble_eq_true rfl) ?_
  refine v_istore (pc := 46) (ls' := [some (.ref x0), some (.int x1), some (.ref x2), some (.int x3), some (.int i5), some (.int i9), none]) dFo_takeApart_46 (by decide) rfl ?_
  refine v_aload_n (i := 0) (pc := 48) dFo_takeApart_48 rfl rfl ?_
  refine v_aload_n (i := 2) (pc := 49) dFo_takeApart_49 rfl rfl ?_
  refine v_aload_n (i := 0) (pc := 50) dFo_takeApart_50 rfl rfl ?_
  refine v_getR (pc := 51) fgFo_16 dFo_takeApart_51 hf (fun a10 hf => ?_)
  refine v_iload_n (i := 1) (pc := 54) dFo_takeApart_54 rfl rfl ?_
  refine v_iald (pc := 55) dFo_takeApart_55 hf (fun i11 hf => ?_)
  refine v_iload_n (i := 3) (pc := 56) dFo_takeApart_56 rfl rfl ?_
  refine v_iload (pc := 57) dFo_takeApart_57 rfl ?_
  obtain ⟨h12, i13, e25, hf⟩ := bndp hf
  refine v_S1 (pc := 59) (As := [.ref x2, .int i11, .int x3, .int i5]) (rest := [.ref x0]) lsFo_71 (sFo_codeWithout e25) ⟨Nat.le_of_ble_eq_true rfl, Nat.le_of_ble_eq_true rfl, Nat.le_of_ble_eq_true rfl, Nat.le_of_ble_eq_true rfl⟩ dFo_takeApart_59 rfl rfl (Nat.le_of_ble_eq_true rfl) ?_
  obtain ⟨u24, cu24, hf⟩ := bnd hf
  obtain ⟨h14, i15, e23, hf⟩ := bndp hf
  refine v_M1 (pc := 62) (As := [.int i13]) (rest := []) lmFo_67 cu24 (sFo_numbered e23) ⟨Nat.le_of_ble_eq_true rfl, Nat.le_of_ble_eq_true rfl, Nat.le_of_ble_eq_true rfl, Nat.le_of_ble_eq_true rfl⟩ dFo_takeApart_62 rfl rfl (Nat.le_of_ble_eq_true rfl) ?_
  refine v_istore (pc := 65) (ls' := [some (.ref x0), some (.int x1), some (.ref x2), some (.int x3), some (.int i5), some (.int i9), some (.int i15)]) dFo_takeApart_65 (by decide) rfl ?_
  refine v_aload_n (i := 0) (pc := 67) dFo_takeApart_67 rfl rfl ?_
  refine v_getR (pc := 68) fgFo_35 dFo_takeApart_68 hf (fun a16 hf => ?_)
  refine v_iload (pc := 71) dFo_takeApart_71 rfl ?_
  refine v_aald (pc := 73) (Or.inl rfl) dFo_takeApart_73 hf (fun hf => ?_) (fun a17 hf => ?_)
  · cases hf
  refine v_iload (pc := 74) dFo_takeApart_74 rfl ?_
  refine v_iload_n (i := 1) (pc := 76) dFo_takeApart_76 rfl rfl ?_
  refine v_iast (pc := 77) dFo_takeApart_77 hf (fun h18 hf => ?_)
  refine v_aload_n (i := 0) (pc := 78) dFo_takeApart_78 rfl rfl ?_
  refine v_getR (pc := 79) fgFo_29 dFo_takeApart_79 hf (fun a19 hf => ?_)
  refine v_iload_n (i := 1) (pc := 82) dFo_takeApart_82 rfl rfl ?_
  refine v_iload (pc := 83) dFo_takeApart_83 rfl ?_
  refine v_iast (pc := 85) dFo_takeApart_85 hf (fun h20 hf => ?_)
  refine v_aload_n (i := 0) (pc := 86) dFo_takeApart_86 rfl rfl ?_
  refine v_getR (pc := 87) fgFo_32 dFo_takeApart_87 hf (fun a21 hf => ?_)
  refine v_iload_n (i := 1) (pc := 90) dFo_takeApart_90 rfl rfl ?_
  refine v_iload (pc := 91) dFo_takeApart_91 rfl ?_
  refine v_iast (pc := 93) dFo_takeApart_93 hf (fun h22 hf => ?_)
  refine v_wk (ls' := [some (.ref x0), some (.int x1), some (.ref x2), some (.int x3), none, none, none]) ⟨rfl, rfl, rfl, rfl, trivial⟩ ?_
  exact tFo_takeApart_94 hk9 n h22 x0 x1 x2 x3 hf
def fFo_takeApart (n : Nat) (h : MH) (a_0 : Nat) (i_1 : Int32) : Option MH := ((gfR h a_0 [0] 0).bind fun a1 => (rdRn h a1 2 i_1 (none : Option MH) fun a2 => (fFo_takeApart_9 n h a_0 i_1 a2 (1:Int32))))
set_option maxRecDepth 20000 in
set_option maxHeartbeats 4000000 in
theorem sFo_takeApart {g : Gh} {h' : MH} {n : Nat} {h : MH} {a_0 : Nat} {i_1 : Int32} (hf : fFo_takeApart n h a_0 i_1 = some h') : Sp g yFo_takeApart cFo_takeApart 7 none rmFo_takeApart h [.ref a_0, .int i_1] h' none := by
  refine sp_of (by decide) (Nat.le_of_ble_eq_true rfl) ?_
  change V g yFo_takeApart cFo_takeApart 7 none rmFo_takeApart (ZQ g rmFo_takeApart h' none) 0 0 h 0 [some (.ref a_0), some (.int i_1), none, none, none, none, none] []
  unfold fFo_takeApart at hf
  refine v_aload_n (i := 0) (pc := 0) dFo_takeApart_0 rfl rfl ?_
  refine v_getR (pc := 1) fgFo_11 dFo_takeApart_1 hf (fun a1 hf => ?_)
  refine v_iload_n (i := 1) (pc := 4) dFo_takeApart_4 rfl rfl ?_
  refine v_aald (pc := 5) (Or.inl rfl) dFo_takeApart_5 hf (fun hf => ?_) (fun a2 hf => ?_)
  · cases hf
  refine v_astore_n (i := 2) (pc := 6) (ls' := [some (.ref a_0), some (.int i_1), some (.ref a2), none, none, none, none]) dFo_takeApart_6 rfl (by decide) rfl ?_
  refine v_iconst (pc := 7) (1:Int32) dFo_takeApart_7 rfl ?_
  refine v_istore_n (i := 3) (pc := 8) (ls' := [some (.ref a_0), some (.int i_1), some (.ref a2), some (.int (1:Int32)), none, none, none]) dFo_takeApart_8 rfl (by decide) rfl ?_
  refine v_wk (ls' := [some (.ref a_0), some (.int i_1), some (.ref a2), some (.int (1:Int32)), none, none, none]) ⟨rfl, rfl, rfl, rfl, trivial⟩ ?_
  exact tFo_takeApart_9 n h a_0 i_1 a2 (1:Int32) hf
abbrev rmFo_sameAtEnd : Room := { frames := 0, cells := 0, slots := 0, locals := 0 }
def bFo_sameAtEnd_12 (n : Nat) (k12 : (MH × Nat × Int32 × Int32 × Int32 × Int32) → Option (MH × Int32)) (h : MH) (x0 : Nat) (x1 : Int32) (x2 : Int32) (x3 : Int32) (x4 : Int32) : Option (MH × Int32) := (if (6:Int32) ≤ x4 then (some (h, x2)) else (if x3 = (0:Int32) then (some (h, x2)) else ((gfR h x0 [0] 6).bind fun a1 => ((rdI h a1 x3).bind fun i2 => ((gfR h x0 [0] 6).bind fun a3 => ((rdI h a3 x1).bind fun i4 => (if i2 = i4 then ((gfR h x0 [0] 5).bind fun a5 => ((rdI h a5 x3).bind fun i6 => (k12 (h, x0, x1, (x2 + (1:Int32)), i6, (x4 + (1:Int32)))))) else (some (h, x2)))))))))
def fFo_sameAtEnd_12 (n : Nat) (h : MH) (x0 : Nat) (x1 : Int32) (x2 : Int32) (x3 : Int32) (x4 : Int32) : Option (MH × Int32) := lp (fun n k s => bFo_sameAtEnd_12 n k s.1 s.2.1 s.2.2.1 s.2.2.2.1 s.2.2.2.2.1 s.2.2.2.2.2) n (h, x0, x1, x2, x3, x4)
set_option maxRecDepth 20000 in
set_option maxHeartbeats 4000000 in
theorem tFo_sameAtEnd_12 {g : Gh} {h' : MH} {r' : Int32} (n : Nat) (h : MH) (x0 : Nat) (x1 : Int32) (x2 : Int32) (x3 : Int32) (x4 : Int32) (hf : fFo_sameAtEnd_12 n h x0 x1 x2 x3 x4 = some (h', r')) : V g yFo_sameAtEnd cFo_sameAtEnd 5 (some .int) rmFo_sameAtEnd (ZQ g rmFo_sameAtEnd h' (some (.int r'))) 0 0 h 12 [some (.ref x0), some (.int x1), some (.int x2), some (.int x3), some (.int x4)] [] := by
  unfold fFo_sameAtEnd_12 at hf
  refine lp_ind (P := fun s => V g yFo_sameAtEnd cFo_sameAtEnd 5 (some .int) rmFo_sameAtEnd (ZQ g rmFo_sameAtEnd h' (some (.int r'))) 0 0 s.1 12 [some (.ref s.2.1), some (.int s.2.2.1), some (.int s.2.2.2.1), some (.int s.2.2.2.2.1), some (.int s.2.2.2.2.2)] []) (fun n k12 hk12 s hf => ?_) n (h, x0, x1, x2, x3, x4) hf
  obtain ⟨h, x0, x1, x2, x3, x4⟩ := s
  replace hk12 : ∀ (h : MH) (x0 : Nat) (x1 : Int32) (x2 : Int32) (x3 : Int32) (x4 : Int32), k12 (h, x0, x1, x2, x3, x4) = some (h', r') → V g yFo_sameAtEnd cFo_sameAtEnd 5 (some .int) rmFo_sameAtEnd (ZQ g rmFo_sameAtEnd h' (some (.int r'))) 0 0 h 12 [some (.ref x0), some (.int x1), some (.int x2), some (.int x3), some (.int x4)] [] := fun h x0 x1 x2 x3 x4 => hk12 (h, x0, x1, x2, x3, x4)
  replace hf : bFo_sameAtEnd_12 n k12 h x0 x1 x2 x3 x4 = some (h', r') := hf
  change V g yFo_sameAtEnd cFo_sameAtEnd 5 (some .int) rmFo_sameAtEnd (ZQ g rmFo_sameAtEnd h' (some (.int r'))) 0 0 h 12 [some (.ref x0), some (.int x1), some (.int x2), some (.int x3), some (.int x4)] []
  unfold bFo_sameAtEnd_12 at hf
  refine v_iload (pc := 12) dFo_sameAtEnd_12 rfl ?_
  refine v_bipush (pc := 14) (6:Int32) dFo_sameAtEnd_14 rfl ?_
  refine v_icmp_ge (pc := 16) (tgt := 54) dFo_sameAtEnd_16 rfl hf (fun hf => ?_) (fun hf => ?_)
  · refine v_iload_n (i := 2) (pc := 54) dFo_sameAtEnd_54 rfl rfl ?_
    exact v_iret (pc := 55) dFo_sameAtEnd_55 (by decide) (by decide) hf
  refine v_iload_n (i := 3) (pc := 19) dFo_sameAtEnd_19 rfl rfl ?_
  refine v_if_eq (pc := 20) (tgt := 54) dFo_sameAtEnd_20 rfl hf (fun hf => ?_) (fun hf => ?_)
  · refine v_iload_n (i := 2) (pc := 54) dFo_sameAtEnd_54 rfl rfl ?_
    exact v_iret (pc := 55) dFo_sameAtEnd_55 (by decide) (by decide) hf
  refine v_aload_n (i := 0) (pc := 23) dFo_sameAtEnd_23 rfl rfl ?_
  refine v_getR (pc := 24) fgFo_32 dFo_sameAtEnd_24 hf (fun a1 hf => ?_)
  refine v_iload_n (i := 3) (pc := 27) dFo_sameAtEnd_27 rfl rfl ?_
  refine v_iald (pc := 28) dFo_sameAtEnd_28 hf (fun i2 hf => ?_)
  refine v_aload_n (i := 0) (pc := 29) dFo_sameAtEnd_29 rfl rfl ?_
  refine v_getR (pc := 30) fgFo_32 dFo_sameAtEnd_30 hf (fun a3 hf => ?_)
  refine v_iload_n (i := 1) (pc := 33) dFo_sameAtEnd_33 rfl rfl ?_
  refine v_iald (pc := 34) dFo_sameAtEnd_34 hf (fun i4 hf => ?_)
  refine v_icmp_ne (pc := 35) (tgt := 54) dFo_sameAtEnd_35 rfl hf (fun hf => ?_) (fun hf => ?_)
  rotate_left
  · refine v_iload_n (i := 2) (pc := 54) dFo_sameAtEnd_54 rfl rfl ?_
    exact v_iret (pc := 55) dFo_sameAtEnd_55 (by decide) (by decide) hf
  refine v_iinc (pc := 38) (v := (x2 + (1:Int32))) (ls' := [some (.ref x0), some (.int x1), some (.int (x2 + (1:Int32))), some (.int x3), some (.int x4)]) dFo_sameAtEnd_38 rfl rfl (by decide) rfl ?_
  refine v_aload_n (i := 0) (pc := 41) dFo_sameAtEnd_41 rfl rfl ?_
  refine v_getR (pc := 42) fgFo_29 dFo_sameAtEnd_42 hf (fun a5 hf => ?_)
  refine v_iload_n (i := 3) (pc := 45) dFo_sameAtEnd_45 rfl rfl ?_
  refine v_iald (pc := 46) dFo_sameAtEnd_46 hf (fun i6 hf => ?_)
  refine v_istore_n (i := 3) (pc := 47) (ls' := [some (.ref x0), some (.int x1), some (.int (x2 + (1:Int32))), some (.int i6), some (.int x4)]) dFo_sameAtEnd_47 rfl (by decide) rfl ?_
  refine v_iinc (pc := 48) (v := (x4 + (1:Int32))) (ls' := [some (.ref x0), some (.int x1), some (.int (x2 + (1:Int32))), some (.int i6), some (.int (x4 + (1:Int32)))]) dFo_sameAtEnd_48 rfl rfl (by decide) rfl ?_
  refine v_goto (pc := 51) (tgt := 12) dFo_sameAtEnd_51 rfl ?_
  refine v_wk (ls' := [some (.ref x0), some (.int x1), some (.int (x2 + (1:Int32))), some (.int i6), some (.int (x4 + (1:Int32)))]) ⟨rfl, rfl, rfl, rfl, rfl, trivial⟩ ?_
  exact hk12 h x0 x1 (x2 + (1:Int32)) i6 (x4 + (1:Int32)) hf
def fFo_sameAtEnd (n : Nat) (h : MH) (a_0 : Nat) (i_1 : Int32) : Option (MH × Int32) := ((gfR h a_0 [0] 5).bind fun a1 => ((rdI h a1 i_1).bind fun i2 => (fFo_sameAtEnd_12 n h a_0 i_1 (1:Int32) i2 (0:Int32))))
set_option maxRecDepth 20000 in
set_option maxHeartbeats 4000000 in
theorem sFo_sameAtEnd {g : Gh} {h' : MH} {r' : Int32} {n : Nat} {h : MH} {a_0 : Nat} {i_1 : Int32} (hf : fFo_sameAtEnd n h a_0 i_1 = some (h', r')) : Sp g yFo_sameAtEnd cFo_sameAtEnd 5 (some .int) rmFo_sameAtEnd h [.ref a_0, .int i_1] h' (some (.int r')) := by
  refine sp_of (by decide) (Nat.le_of_ble_eq_true rfl) ?_
  change V g yFo_sameAtEnd cFo_sameAtEnd 5 (some .int) rmFo_sameAtEnd (ZQ g rmFo_sameAtEnd h' (some (.int r'))) 0 0 h 0 [some (.ref a_0), some (.int i_1), none, none, none] []
  unfold fFo_sameAtEnd at hf
  refine v_iconst (pc := 0) (1:Int32) dFo_sameAtEnd_0 rfl ?_
  refine v_istore_n (i := 2) (pc := 1) (ls' := [some (.ref a_0), some (.int i_1), some (.int (1:Int32)), none, none]) dFo_sameAtEnd_1 rfl (by decide) rfl ?_
  refine v_aload_n (i := 0) (pc := 2) dFo_sameAtEnd_2 rfl rfl ?_
  refine v_getR (pc := 3) fgFo_29 dFo_sameAtEnd_3 hf (fun a1 hf => ?_)
  refine v_iload_n (i := 1) (pc := 6) dFo_sameAtEnd_6 rfl rfl ?_
  refine v_iald (pc := 7) dFo_sameAtEnd_7 hf (fun i2 hf => ?_)
  refine v_istore_n (i := 3) (pc := 8) (ls' := [some (.ref a_0), some (.int i_1), some (.int (1:Int32)), some (.int i2), none]) dFo_sameAtEnd_8 rfl (by decide) rfl ?_
  refine v_iconst (pc := 9) (0:Int32) dFo_sameAtEnd_9 rfl ?_
  refine v_istore (pc := 10) (ls' := [some (.ref a_0), some (.int i_1), some (.int (1:Int32)), some (.int i2), some (.int (0:Int32))]) dFo_sameAtEnd_10 (by decide) rfl ?_
  refine v_wk (ls' := [some (.ref a_0), some (.int i_1), some (.int (1:Int32)), some (.int i2), some (.int (0:Int32))]) ⟨rfl, rfl, rfl, rfl, rfl, trivial⟩ ?_
  exact tFo_sameAtEnd_12 n h a_0 i_1 (1:Int32) i2 (0:Int32) hf
abbrev rmFo_measure : Room := { frames := 1, cells := 0, slots := 0, locals := 24 }
def bFo_measure_63 (n : Nat) (k63 : (MH × Nat × Int32 × Int32) → Option MH) (h : MH) (x0 : Nat) (x1 : Int32) (x4 : Int32) : Option MH := ((gfR h x0 [0] 1).bind fun a1 => ((rdI h a1 x1).bind fun i2 => (if i2 ≤ x4 then (some h) else ((gfR h x0 [0] 3).bind fun a3 => ((rdI h a3 x1).bind fun i4 => ((chk h x0 0).bind fun _ => (bnd2 (fFo_hangingEnd n h x0 x1 x4) fun h5 i6 => ((wrI h5 a3 x1 (i4 * (i6 - x4))).bind fun h7 => (k63 (h7, x0, x1, (x4 + (1:Int32))))))))))))
def fFo_measure_63 (n : Nat) (h : MH) (x0 : Nat) (x1 : Int32) (x4 : Int32) : Option MH := lp (fun n k s => bFo_measure_63 n k s.1 s.2.1 s.2.2.1 s.2.2.2) n (h, x0, x1, x4)
set_option maxRecDepth 20000 in
set_option maxHeartbeats 4000000 in
theorem tFo_measure_63 {g : Gh} {h' : MH} (n : Nat) (h : MH) (x0 : Nat) (x1 : Int32) (x4 : Int32) (hf : fFo_measure_63 n h x0 x1 x4 = some h') : V g yFo_measure cFo_measure 5 none rmFo_measure (ZQ g rmFo_measure h' none) 0 0 h 63 [some (.ref x0), some (.int x1), none, none, some (.int x4)] [] := by
  unfold fFo_measure_63 at hf
  refine lp_ind (P := fun s => V g yFo_measure cFo_measure 5 none rmFo_measure (ZQ g rmFo_measure h' none) 0 0 s.1 63 [some (.ref s.2.1), some (.int s.2.2.1), none, none, some (.int s.2.2.2)] []) (fun n k63 hk63 s hf => ?_) n (h, x0, x1, x4) hf
  obtain ⟨h, x0, x1, x4⟩ := s
  replace hk63 : ∀ (h : MH) (x0 : Nat) (x1 : Int32) (x4 : Int32), k63 (h, x0, x1, x4) = some h' → V g yFo_measure cFo_measure 5 none rmFo_measure (ZQ g rmFo_measure h' none) 0 0 h 63 [some (.ref x0), some (.int x1), none, none, some (.int x4)] [] := fun h x0 x1 x4 => hk63 (h, x0, x1, x4)
  replace hf : bFo_measure_63 n k63 h x0 x1 x4 = some h' := hf
  change V g yFo_measure cFo_measure 5 none rmFo_measure (ZQ g rmFo_measure h' none) 0 0 h 63 [some (.ref x0), some (.int x1), none, none, some (.int x4)] []
  unfold bFo_measure_63 at hf
  refine v_iload (pc := 63) dFo_measure_63 rfl ?_
  refine v_aload_n (i := 0) (pc := 65) dFo_measure_65 rfl rfl ?_
  refine v_getR (pc := 66) fgFo_16 dFo_measure_66 hf (fun a1 hf => ?_)
  refine v_iload_n (i := 1) (pc := 69) dFo_measure_69 rfl rfl ?_
  refine v_iald (pc := 70) dFo_measure_70 hf (fun i2 hf => ?_)
  refine v_icmp_ge (pc := 71) (tgt := 99) dFo_measure_71 rfl hf (fun hf => ?_) (fun hf => ?_)
  · exact v_vret (pc := 99) dFo_measure_99 (by decide) (by decide) hf
  refine v_aload_n (i := 0) (pc := 74) dFo_measure_74 rfl rfl ?_
  refine v_getR (pc := 75) fgFo_23 dFo_measure_75 hf (fun a3 hf => ?_)
  refine v_iload_n (i := 1) (pc := 78) dFo_measure_78 rfl rfl ?_
  refine v_dup2 (pc := 79) dFo_measure_79 rfl rfl ?_
  refine v_iald (pc := 80) dFo_measure_80 hf (fun i4 hf => ?_)
  refine v_aload_n (i := 0) (pc := 81) dFo_measure_81 rfl rfl ?_
  refine v_iload_n (i := 1) (pc := 82) dFo_measure_82 rfl rfl ?_
  refine v_iload (pc := 83) dFo_measure_83 rfl ?_
  obtain ⟨u9, cu9, hf⟩ := bnd hf
  obtain ⟨h5, i6, e8, hf⟩ := bndp hf
  refine v_M1 (pc := 85) (As := [.int x1, .int x4]) (rest := [.int i4, .int x1, .ref a3]) lmFo_63 cu9 (sFo_hangingEnd e8) ⟨Nat.le_of_ble_eq_true rfl, Nat.le_of_ble_eq_true rfl, Nat.le_of_ble_eq_true rfl, Nat.le_of_ble_eq_true rfl⟩ dFo_measure_85 rfl rfl (Nat.le_of_ble_eq_true rfl) ?_
  refine v_iload (pc := 88) dFo_measure_88 rfl ?_
  refine v_isub (pc := 90) dFo_measure_90 ?_
  refine v_imul (pc := 91) dFo_measure_91 ?_
  refine v_iast (pc := 92) dFo_measure_92 hf (fun h7 hf => ?_)
  refine v_iinc (pc := 93) (v := (x4 + (1:Int32))) (ls' := [some (.ref x0), some (.int x1), none, none, some (.int (x4 + (1:Int32)))]) dFo_measure_93 rfl rfl (by decide) rfl ?_
  refine v_goto (pc := 96) (tgt := 63) dFo_measure_96 rfl ?_
  refine v_wk (ls' := [some (.ref x0), some (.int x1), none, none, some (.int (x4 + (1:Int32)))]) ⟨rfl, rfl, rfl, trivial⟩ ?_
  exact hk63 h7 x0 x1 (x4 + (1:Int32)) hf
def fFo_measure (n : Nat) (h : MH) (a_0 : Nat) (i_1 : Int32) : Option MH := ((gfR h a_0 [0] 5).bind fun a1 => ((rdI h a1 i_1).bind fun i2 => ((gfR h a_0 [0] 6).bind fun a3 => ((rdI h a3 i_1).bind fun i4 => ((gfR h a_0 [0] 4).bind fun a5 => ((gfR h a_0 [0] 4).bind fun a6 => ((rdI h a6 i2).bind fun i7 => ((wrI h a5 i_1 (i7 + (1:Int32))).bind fun h8 => ((gfR h8 a_0 [0] 2).bind fun a9 => ((gfR h8 a_0 [0] 2).bind fun a10 => ((rdI h8 a10 i2).bind fun i11 => ((gfR h8 a_0 [0] 2).bind fun a12 => ((rdI h8 a12 i4).bind fun i13 => ((chk h8 a_0 0).bind fun _ => (bnd2 (fFo_sameAtEnd n h8 a_0 i_1) fun h14 i15 => ((wrI h14 a9 i_1 ((i11 * i13) * i15)).bind fun h16 => ((gfR h16 a_0 [0] 3).bind fun a17 => ((wrI h16 a17 i_1 (1:Int32)).bind fun h18 => (fFo_measure_63 n h18 a_0 i_1 (0:Int32))))))))))))))))))))
set_option maxRecDepth 20000 in
set_option maxHeartbeats 4000000 in
theorem sFo_measure {g : Gh} {h' : MH} {n : Nat} {h : MH} {a_0 : Nat} {i_1 : Int32} (hf : fFo_measure n h a_0 i_1 = some h') : Sp g yFo_measure cFo_measure 5 none rmFo_measure h [.ref a_0, .int i_1] h' none := by
  refine sp_of (by decide) (Nat.le_of_ble_eq_true rfl) ?_
  change V g yFo_measure cFo_measure 5 none rmFo_measure (ZQ g rmFo_measure h' none) 0 0 h 0 [some (.ref a_0), some (.int i_1), none, none, none] []
  unfold fFo_measure at hf
  refine v_aload_n (i := 0) (pc := 0) dFo_measure_0 rfl rfl ?_
  refine v_getR (pc := 1) fgFo_29 dFo_measure_1 hf (fun a1 hf => ?_)
  refine v_iload_n (i := 1) (pc := 4) dFo_measure_4 rfl rfl ?_
  refine v_iald (pc := 5) dFo_measure_5 hf (fun i2 hf => ?_)
  refine v_istore_n (i := 2) (pc := 6) (ls' := [some (.ref a_0), some (.int i_1), some (.int i2), none, none]) dFo_measure_6 rfl (by decide) rfl ?_
  refine v_aload_n (i := 0) (pc := 7) dFo_measure_7 rfl rfl ?_
  refine v_getR (pc := 8) fgFo_32 dFo_measure_8 hf (fun a3 hf => ?_)
  refine v_iload_n (i := 1) (pc := 11) dFo_measure_11 rfl rfl ?_
  refine v_iald (pc := 12) dFo_measure_12 hf (fun i4 hf => ?_)
  refine v_istore_n (i := 3) (pc := 13) (ls' := [some (.ref a_0), some (.int i_1), some (.int i2), some (.int i4), none]) dFo_measure_13 rfl (by decide) rfl ?_
  refine v_aload_n (i := 0) (pc := 14) dFo_measure_14 rfl rfl ?_
  refine v_getR (pc := 15) fgFo_26 dFo_measure_15 hf (fun a5 hf => ?_)
  refine v_iload_n (i := 1) (pc := 18) dFo_measure_18 rfl rfl ?_
  refine v_aload_n (i := 0) (pc := 19) dFo_measure_19 rfl rfl ?_
  refine v_getR (pc := 20) fgFo_26 dFo_measure_20 hf (fun a6 hf => ?_)
  refine v_iload_n (i := 2) (pc := 23) dFo_measure_23 rfl rfl ?_
  refine v_iald (pc := 24) dFo_measure_24 hf (fun i7 hf => ?_)
  refine v_iconst (pc := 25) (1:Int32) dFo_measure_25 rfl ?_
  refine v_iadd (pc := 26) dFo_measure_26 ?_
  refine v_iast (pc := 27) dFo_measure_27 hf (fun h8 hf => ?_)
  refine v_aload_n (i := 0) (pc := 28) dFo_measure_28 rfl rfl ?_
  refine v_getR (pc := 29) fgFo_20 dFo_measure_29 hf (fun a9 hf => ?_)
  refine v_iload_n (i := 1) (pc := 32) dFo_measure_32 rfl rfl ?_
  refine v_aload_n (i := 0) (pc := 33) dFo_measure_33 rfl rfl ?_
  refine v_getR (pc := 34) fgFo_20 dFo_measure_34 hf (fun a10 hf => ?_)
  refine v_iload_n (i := 2) (pc := 37) dFo_measure_37 rfl rfl ?_
  refine v_iald (pc := 38) dFo_measure_38 hf (fun i11 hf => ?_)
  refine v_aload_n (i := 0) (pc := 39) dFo_measure_39 rfl rfl ?_
  refine v_getR (pc := 40) fgFo_20 dFo_measure_40 hf (fun a12 hf => ?_)
  refine v_iload_n (i := 3) (pc := 43) dFo_measure_43 rfl rfl ?_
  refine v_iald (pc := 44) dFo_measure_44 hf (fun i13 hf => ?_)
  refine v_imul (pc := 45) dFo_measure_45 ?_
  refine v_aload_n (i := 0) (pc := 46) dFo_measure_46 rfl rfl ?_
  refine v_iload_n (i := 1) (pc := 47) dFo_measure_47 rfl rfl ?_
  obtain ⟨u20, cu20, hf⟩ := bnd hf
  obtain ⟨h14, i15, e19, hf⟩ := bndp hf
  refine v_M1 (pc := 48) (As := [.int i_1]) (rest := [.int (i11 * i13), .int i_1, .ref a9]) lmFo_74 cu20 (sFo_sameAtEnd e19) ⟨Nat.le_of_ble_eq_true rfl, Nat.le_of_ble_eq_true rfl, Nat.le_of_ble_eq_true rfl, Nat.le_of_ble_eq_true rfl⟩ dFo_measure_48 rfl rfl (Nat.le_of_ble_eq_true rfl) ?_
  refine v_imul (pc := 51) dFo_measure_51 ?_
  refine v_iast (pc := 52) dFo_measure_52 hf (fun h16 hf => ?_)
  refine v_aload_n (i := 0) (pc := 53) dFo_measure_53 rfl rfl ?_
  refine v_getR (pc := 54) fgFo_23 dFo_measure_54 hf (fun a17 hf => ?_)
  refine v_iload_n (i := 1) (pc := 57) dFo_measure_57 rfl rfl ?_
  refine v_iconst (pc := 58) (1:Int32) dFo_measure_58 rfl ?_
  refine v_iast (pc := 59) dFo_measure_59 hf (fun h18 hf => ?_)
  refine v_iconst (pc := 60) (0:Int32) dFo_measure_60 rfl ?_
  refine v_istore (pc := 61) (ls' := [some (.ref a_0), some (.int i_1), some (.int i2), some (.int i4), some (.int (0:Int32))]) dFo_measure_61 (by decide) rfl ?_
  refine v_wk (ls' := [some (.ref a_0), some (.int i_1), none, none, some (.int (0:Int32))]) ⟨rfl, rfl, rfl, trivial⟩ ?_
  exact tFo_measure_63 n h18 a_0 i_1 (0:Int32) hf
abbrev rmFo_init : Room := { frames := 2, cells := 83, slots := 1924, locals := 51 }
def bFo_init_94 (k86 : (MH × Nat × Int32) → Option MH) (n : Nat) (k94 : (MH × Nat × Int32 × Int32) → Option MH) (h : MH) (x0 : Nat) (x1 : Int32) (x2 : Int32) : Option MH := (if (37:Int32) ≤ x2 then (k86 (h, x0, (x1 + (1:Int32)))) else ((gfR h x0 [0] 7).bind fun a1 => (rdRn h a1 2 x1 (none : Option MH) fun a2 => ((wrI h a2 x2 (-1000000:Int32)).bind fun h3 => (k94 (h3, x0, x1, (x2 + (1:Int32))))))))
def fFo_init_94 (k86 : (MH × Nat × Int32) → Option MH) (n : Nat) (h : MH) (x0 : Nat) (x1 : Int32) (x2 : Int32) : Option MH := lp (fun n k s => bFo_init_94 k86 n k s.1 s.2.1 s.2.2.1 s.2.2.2) n (h, x0, x1, x2)
set_option maxRecDepth 20000 in
set_option maxHeartbeats 4000000 in
theorem tFo_init_94 {g : Gh} {h' : MH} {k86 : (MH × Nat × Int32) → Option MH} (hk86 : ∀ (h : MH) (x0 : Nat) (x1 : Int32), k86 (h, x0, x1) = some h' → V g yFo_init cFo_init 3 none rmFo_init (ZQ g rmFo_init h' none) 83 1924 h 86 [some (.ref x0), some (.int x1), none] []) (n : Nat) (h : MH) (x0 : Nat) (x1 : Int32) (x2 : Int32) (hf : fFo_init_94 k86 n h x0 x1 x2 = some h') : V g yFo_init cFo_init 3 none rmFo_init (ZQ g rmFo_init h' none) 83 1924 h 94 [some (.ref x0), some (.int x1), some (.int x2)] [] := by
  unfold fFo_init_94 at hf
  refine lp_ind (P := fun s => V g yFo_init cFo_init 3 none rmFo_init (ZQ g rmFo_init h' none) 83 1924 s.1 94 [some (.ref s.2.1), some (.int s.2.2.1), some (.int s.2.2.2)] []) (fun n k94 hk94 s hf => ?_) n (h, x0, x1, x2) hf
  obtain ⟨h, x0, x1, x2⟩ := s
  replace hk94 : ∀ (h : MH) (x0 : Nat) (x1 : Int32) (x2 : Int32), k94 (h, x0, x1, x2) = some h' → V g yFo_init cFo_init 3 none rmFo_init (ZQ g rmFo_init h' none) 83 1924 h 94 [some (.ref x0), some (.int x1), some (.int x2)] [] := fun h x0 x1 x2 => hk94 (h, x0, x1, x2)
  replace hf : bFo_init_94 k86 n k94 h x0 x1 x2 = some h' := hf
  change V g yFo_init cFo_init 3 none rmFo_init (ZQ g rmFo_init h' none) 83 1924 h 94 [some (.ref x0), some (.int x1), some (.int x2)] []
  unfold bFo_init_94 at hf
  refine v_iload_n (i := 2) (pc := 94) dFo_init_94 rfl rfl ?_
  refine v_bipush (pc := 95) (37:Int32) dFo_init_95 rfl ?_
  refine v_icmp_ge (pc := 97) (tgt := 116) dFo_init_97 rfl hf (fun hf => ?_) (fun hf => ?_)
  · refine v_iinc (pc := 116) (v := (x1 + (1:Int32))) (ls' := [some (.ref x0), some (.int (x1 + (1:Int32))), some (.int x2)]) dFo_init_116 rfl rfl (by decide) rfl ?_
    refine v_goto (pc := 119) (tgt := 86) dFo_init_119 rfl ?_
    refine v_wk (ls' := [some (.ref x0), some (.int (x1 + (1:Int32))), none]) ⟨rfl, rfl, trivial⟩ ?_
    exact hk86 h x0 (x1 + (1:Int32)) hf
  refine v_aload_n (i := 0) (pc := 100) dFo_init_100 rfl rfl ?_
  refine v_getR (pc := 101) fgFo_35 dFo_init_101 hf (fun a1 hf => ?_)
  refine v_iload_n (i := 1) (pc := 104) dFo_init_104 rfl rfl ?_
  refine v_aald (pc := 105) (Or.inl rfl) dFo_init_105 hf (fun hf => ?_) (fun a2 hf => ?_)
  · cases hf
  refine v_iload_n (i := 2) (pc := 106) dFo_init_106 rfl rfl ?_
  refine v_ldc (pc := 107) dFo_init_107 kiFo_41 ?_
  refine v_iast (pc := 109) dFo_init_109 hf (fun h3 hf => ?_)
  refine v_iinc (pc := 110) (v := (x2 + (1:Int32))) (ls' := [some (.ref x0), some (.int x1), some (.int (x2 + (1:Int32)))]) dFo_init_110 rfl rfl (by decide) rfl ?_
  refine v_goto (pc := 113) (tgt := 94) dFo_init_113 rfl ?_
  refine v_wk (ls' := [some (.ref x0), some (.int x1), some (.int (x2 + (1:Int32)))]) ⟨rfl, rfl, rfl, trivial⟩ ?_
  exact hk94 h3 x0 x1 (x2 + (1:Int32)) hf
def bFo_init_128 (n : Nat) (k128 : (MH × Nat × Int32) → Option MH) (h : MH) (x0 : Nat) (x1 : Int32) : Option MH := (if (37:Int32) ≤ x1 then (some h) else ((chk h x0 0).bind fun _ => ((fFo_plant n h x0 x1).bind fun h1 => ((chk h1 x0 0).bind fun _ => ((fFo_takeApart n h1 x0 x1).bind fun h2 => ((chk h2 x0 0).bind fun _ => ((fFo_measure n h2 x0 x1).bind fun h3 => (k128 (h3, x0, (x1 + (1:Int32)))))))))))
def fFo_init_128 (n : Nat) (h : MH) (x0 : Nat) (x1 : Int32) : Option MH := lp (fun n k s => bFo_init_128 n k s.1 s.2.1 s.2.2) n (h, x0, x1)
set_option maxRecDepth 20000 in
set_option maxHeartbeats 4000000 in
theorem tFo_init_128 {g : Gh} {h' : MH} (n : Nat) (h : MH) (x0 : Nat) (x1 : Int32) (hf : fFo_init_128 n h x0 x1 = some h') : V g yFo_init cFo_init 3 none rmFo_init (ZQ g rmFo_init h' none) 83 1924 h 128 [some (.ref x0), some (.int x1), none] [] := by
  unfold fFo_init_128 at hf
  refine lp_ind (P := fun s => V g yFo_init cFo_init 3 none rmFo_init (ZQ g rmFo_init h' none) 83 1924 s.1 128 [some (.ref s.2.1), some (.int s.2.2), none] []) (fun n k128 hk128 s hf => ?_) n (h, x0, x1) hf
  obtain ⟨h, x0, x1⟩ := s
  replace hk128 : ∀ (h : MH) (x0 : Nat) (x1 : Int32), k128 (h, x0, x1) = some h' → V g yFo_init cFo_init 3 none rmFo_init (ZQ g rmFo_init h' none) 83 1924 h 128 [some (.ref x0), some (.int x1), none] [] := fun h x0 x1 => hk128 (h, x0, x1)
  replace hf : bFo_init_128 n k128 h x0 x1 = some h' := hf
  change V g yFo_init cFo_init 3 none rmFo_init (ZQ g rmFo_init h' none) 83 1924 h 128 [some (.ref x0), some (.int x1), none] []
  unfold bFo_init_128 at hf
  refine v_iload_n (i := 1) (pc := 128) dFo_init_128 rfl rfl ?_
  refine v_bipush (pc := 129) (37:Int32) dFo_init_129 rfl ?_
  refine v_icmp_ge (pc := 131) (tgt := 155) dFo_init_131 rfl hf (fun hf => ?_) (fun hf => ?_)
  · exact v_vret (pc := 155) dFo_init_155 (by decide) (by decide) hf
  refine v_aload_n (i := 0) (pc := 134) dFo_init_134 rfl rfl ?_
  refine v_iload_n (i := 1) (pc := 135) dFo_init_135 rfl rfl ?_
  obtain ⟨u9, cu9, hf⟩ := bnd hf
  obtain ⟨h1, e8, hf⟩ := bnd hf
  refine v_M0 (pc := 136) (As := [.int x1]) (rest := []) lmFo_45 cu9 (sFo_plant e8) ⟨Nat.le_of_ble_eq_true rfl, Nat.le_of_ble_eq_true rfl, Nat.le_of_ble_eq_true rfl, Nat.le_of_ble_eq_true rfl⟩ dFo_init_136 rfl rfl (Nat.le_of_ble_eq_true rfl) ?_
  refine v_aload_n (i := 0) (pc := 139) dFo_init_139 rfl rfl ?_
  refine v_iload_n (i := 1) (pc := 140) dFo_init_140 rfl rfl ?_
  obtain ⟨u7, cu7, hf⟩ := bnd hf
  obtain ⟨h2, e6, hf⟩ := bnd hf
  refine v_M0 (pc := 141) (As := [.int x1]) (rest := []) lmFo_49 cu7 (sFo_takeApart e6) ⟨Nat.le_of_ble_eq_true rfl, Nat.le_of_ble_eq_true rfl, Nat.le_of_ble_eq_true rfl, Nat.le_of_ble_eq_true rfl⟩ dFo_init_141 rfl rfl (Nat.le_of_ble_eq_true rfl) ?_
  refine v_aload_n (i := 0) (pc := 144) dFo_init_144 rfl rfl ?_
  refine v_iload_n (i := 1) (pc := 145) dFo_init_145 rfl rfl ?_
  obtain ⟨u5, cu5, hf⟩ := bnd hf
  obtain ⟨h3, e4, hf⟩ := bnd hf
  refine v_M0 (pc := 146) (As := [.int x1]) (rest := []) lmFo_52 cu5 (sFo_measure e4) ⟨Nat.le_of_ble_eq_true rfl, Nat.le_of_ble_eq_true rfl, Nat.le_of_ble_eq_true rfl, Nat.le_of_ble_eq_true rfl⟩ dFo_init_146 rfl rfl (Nat.le_of_ble_eq_true rfl) ?_
  refine v_iinc (pc := 149) (v := (x1 + (1:Int32))) (ls' := [some (.ref x0), some (.int (x1 + (1:Int32))), none]) dFo_init_149 rfl rfl (by decide) rfl ?_
  refine v_goto (pc := 152) (tgt := 128) dFo_init_152 rfl ?_
  refine v_wk (ls' := [some (.ref x0), some (.int (x1 + (1:Int32))), none]) ⟨rfl, rfl, trivial⟩ ?_
  exact hk128 h3 x0 (x1 + (1:Int32)) hf
def bFo_init_86 (n : Nat) (k86 : (MH × Nat × Int32) → Option MH) (h : MH) (x0 : Nat) (x1 : Int32) : Option MH := (if (37:Int32) ≤ x1 then ((chk h x0 0).bind fun _ => ((fFo_plantFirst n h x0).bind fun h1 => (fFo_init_128 n h1 x0 (1:Int32)))) else (fFo_init_94 k86 n h x0 x1 (0:Int32)))
def fFo_init_86 (n : Nat) (h : MH) (x0 : Nat) (x1 : Int32) : Option MH := lp (fun n k s => bFo_init_86 n k s.1 s.2.1 s.2.2) n (h, x0, x1)
set_option maxRecDepth 20000 in
set_option maxHeartbeats 4000000 in
theorem tFo_init_86 {g : Gh} {h' : MH} (n : Nat) (h : MH) (x0 : Nat) (x1 : Int32) (hf : fFo_init_86 n h x0 x1 = some h') : V g yFo_init cFo_init 3 none rmFo_init (ZQ g rmFo_init h' none) 83 1924 h 86 [some (.ref x0), some (.int x1), none] [] := by
  unfold fFo_init_86 at hf
  refine lp_ind (P := fun s => V g yFo_init cFo_init 3 none rmFo_init (ZQ g rmFo_init h' none) 83 1924 s.1 86 [some (.ref s.2.1), some (.int s.2.2), none] []) (fun n k86 hk86 s hf => ?_) n (h, x0, x1) hf
  obtain ⟨h, x0, x1⟩ := s
  replace hk86 : ∀ (h : MH) (x0 : Nat) (x1 : Int32), k86 (h, x0, x1) = some h' → V g yFo_init cFo_init 3 none rmFo_init (ZQ g rmFo_init h' none) 83 1924 h 86 [some (.ref x0), some (.int x1), none] [] := fun h x0 x1 => hk86 (h, x0, x1)
  replace hf : bFo_init_86 n k86 h x0 x1 = some h' := hf
  change V g yFo_init cFo_init 3 none rmFo_init (ZQ g rmFo_init h' none) 83 1924 h 86 [some (.ref x0), some (.int x1), none] []
  unfold bFo_init_86 at hf
  refine v_iload_n (i := 1) (pc := 86) dFo_init_86 rfl rfl ?_
  refine v_bipush (pc := 87) (37:Int32) dFo_init_87 rfl ?_
  refine v_icmp_ge (pc := 89) (tgt := 122) dFo_init_89 rfl hf (fun hf => ?_) (fun hf => ?_)
  rotate_left
  · refine v_iconst (pc := 92) (0:Int32) dFo_init_92 rfl ?_
    refine v_istore_n (i := 2) (pc := 93) (ls' := [some (.ref x0), some (.int x1), some (.int (0:Int32))]) dFo_init_93 rfl (by decide) rfl ?_
    refine v_wk (ls' := [some (.ref x0), some (.int x1), some (.int (0:Int32))]) ⟨rfl, rfl, rfl, trivial⟩ ?_
    exact tFo_init_94 hk86 n h x0 x1 (0:Int32) hf
  refine v_aload_n (i := 0) (pc := 122) dFo_init_122 rfl rfl ?_
  obtain ⟨u3, cu3, hf⟩ := bnd hf
  obtain ⟨h1, e2, hf⟩ := bnd hf
  refine v_M0 (pc := 123) (As := []) (rest := []) lmFo_42 cu3 (sFo_plantFirst e2) ⟨Nat.le_of_ble_eq_true rfl, Nat.le_of_ble_eq_true rfl, Nat.le_of_ble_eq_true rfl, Nat.le_of_ble_eq_true rfl⟩ dFo_init_123 rfl rfl (Nat.le_of_ble_eq_true rfl) ?_
  refine v_iconst (pc := 126) (1:Int32) dFo_init_126 rfl ?_
  refine v_istore_n (i := 1) (pc := 127) (ls' := [some (.ref x0), some (.int (1:Int32)), none]) dFo_init_127 rfl (by decide) rfl ?_
  refine v_wk (ls' := [some (.ref x0), some (.int (1:Int32)), none]) ⟨rfl, rfl, trivial⟩ ?_
  exact tFo_init_128 n h1 x0 (1:Int32) hf
def fFo_init (n : Nat) (h : MH) (a_0 : Nat) : Option MH := (naM h 37 6 fun h1 a2 => ((pf h1 a_0 [0] 0 (.ref a2)).bind fun h3 => (naI h3 (37:Int32) 37 fun h4 a5 => ((pf h4 a_0 [0] 1 (.ref a5)).bind fun h6 => (naI h6 (37:Int32) 37 fun h7 a8 => ((pf h7 a_0 [0] 2 (.ref a8)).bind fun h9 => (naI h9 (37:Int32) 37 fun h10 a11 => ((pf h10 a_0 [0] 3 (.ref a11)).bind fun h12 => (naI h12 (37:Int32) 37 fun h13 a14 => ((pf h13 a_0 [0] 4 (.ref a14)).bind fun h15 => (naI h15 (37:Int32) 37 fun h16 a17 => ((pf h16 a_0 [0] 5 (.ref a17)).bind fun h18 => (naI h18 (37:Int32) 37 fun h19 a20 => ((pf h19 a_0 [0] 6 (.ref a20)).bind fun h21 => (naM h21 37 37 fun h22 a23 => ((pf h22 a_0 [0] 7 (.ref a23)).bind fun h24 => (naI h24 (37:Int32) 37 fun h25 a26 => ((pf h25 a_0 [0] 8 (.ref a26)).bind fun h27 => (fFo_init_86 n h27 a_0 (0:Int32))))))))))))))))))))
set_option maxRecDepth 20000 in
set_option maxHeartbeats 4000000 in
theorem sFo_init {g : Gh} {h' : MH} {n : Nat} {h : MH} {a_0 : Nat} (hf : fFo_init n h a_0 = some h') : Sp g yFo_init cFo_init 3 none rmFo_init h [.ref a_0] h' none := by
  refine sp_of (by decide) (Nat.le_of_ble_eq_true rfl) ?_
  change V g yFo_init cFo_init 3 none rmFo_init (ZQ g rmFo_init h' none) 0 0 h 0 [some (.ref a_0), none, none] []
  unfold fFo_init at hf
  refine v_aload_n (i := 0) (pc := 0) dFo_init_0 rfl rfl ?_
  refine v_objInit (pc := 1) dFo_init_1 mlFo_3 obI obC (by decide) (Nat.le_of_ble_eq_true rfl) ?_
  refine v_aload_n (i := 0) (pc := 4) dFo_init_4 rfl rfl ?_
  refine v_bipush (pc := 5) (37:Int32) dFo_init_5 rfl ?_
  refine v_bipush (pc := 7) (6:Int32) dFo_init_7 rfl ?_
  refine v_mna (pc := 9) dFo_init_9 clFo_9 arI (by decide) (by decide) (by decide) (by decide) (by decide) (by decide) (Nat.le_of_ble_eq_true rfl) (Nat.le_of_ble_eq_true rfl) hf (fun h1 a2 hf => ?_)
  refine v_putF (pc := 13) ffFo_11 rfl (fun _ => ⟨rfl, rfl⟩) dFo_init_13 hf (fun h3 hf => ?_)
  refine v_aload_n (i := 0) (pc := 16) dFo_init_16 rfl rfl ?_
  refine v_bipush (pc := 17) (37:Int32) dFo_init_17 rfl ?_
  refine v_newI (pc := 19) dFo_init_19 arI (by decide) (Nat.le_of_ble_eq_true rfl) (Nat.le_of_ble_eq_true rfl) hf (fun h4 a5 hf => ?_)
  refine v_putF (pc := 21) ffFo_16 rfl (fun _ => ⟨rfl, rfl⟩) dFo_init_21 hf (fun h6 hf => ?_)
  refine v_aload_n (i := 0) (pc := 24) dFo_init_24 rfl rfl ?_
  refine v_bipush (pc := 25) (37:Int32) dFo_init_25 rfl ?_
  refine v_newI (pc := 27) dFo_init_27 arI (by decide) (Nat.le_of_ble_eq_true rfl) (Nat.le_of_ble_eq_true rfl) hf (fun h7 a8 hf => ?_)
  refine v_putF (pc := 29) ffFo_20 rfl (fun _ => ⟨rfl, rfl⟩) dFo_init_29 hf (fun h9 hf => ?_)
  refine v_aload_n (i := 0) (pc := 32) dFo_init_32 rfl rfl ?_
  refine v_bipush (pc := 33) (37:Int32) dFo_init_33 rfl ?_
  refine v_newI (pc := 35) dFo_init_35 arI (by decide) (Nat.le_of_ble_eq_true rfl) (Nat.le_of_ble_eq_true rfl) hf (fun h10 a11 hf => ?_)
  refine v_putF (pc := 37) ffFo_23 rfl (fun _ => ⟨rfl, rfl⟩) dFo_init_37 hf (fun h12 hf => ?_)
  refine v_aload_n (i := 0) (pc := 40) dFo_init_40 rfl rfl ?_
  refine v_bipush (pc := 41) (37:Int32) dFo_init_41 rfl ?_
  refine v_newI (pc := 43) dFo_init_43 arI (by decide) (Nat.le_of_ble_eq_true rfl) (Nat.le_of_ble_eq_true rfl) hf (fun h13 a14 hf => ?_)
  refine v_putF (pc := 45) ffFo_26 rfl (fun _ => ⟨rfl, rfl⟩) dFo_init_45 hf (fun h15 hf => ?_)
  refine v_aload_n (i := 0) (pc := 48) dFo_init_48 rfl rfl ?_
  refine v_bipush (pc := 49) (37:Int32) dFo_init_49 rfl ?_
  refine v_newI (pc := 51) dFo_init_51 arI (by decide) (Nat.le_of_ble_eq_true rfl) (Nat.le_of_ble_eq_true rfl) hf (fun h16 a17 hf => ?_)
  refine v_putF (pc := 53) ffFo_29 rfl (fun _ => ⟨rfl, rfl⟩) dFo_init_53 hf (fun h18 hf => ?_)
  refine v_aload_n (i := 0) (pc := 56) dFo_init_56 rfl rfl ?_
  refine v_bipush (pc := 57) (37:Int32) dFo_init_57 rfl ?_
  refine v_newI (pc := 59) dFo_init_59 arI (by decide) (Nat.le_of_ble_eq_true rfl) (Nat.le_of_ble_eq_true rfl) hf (fun h19 a20 hf => ?_)
  refine v_putF (pc := 61) ffFo_32 rfl (fun _ => ⟨rfl, rfl⟩) dFo_init_61 hf (fun h21 hf => ?_)
  refine v_aload_n (i := 0) (pc := 64) dFo_init_64 rfl rfl ?_
  refine v_bipush (pc := 65) (37:Int32) dFo_init_65 rfl ?_
  refine v_bipush (pc := 67) (37:Int32) dFo_init_67 rfl ?_
  refine v_mna (pc := 69) dFo_init_69 clFo_9 arI (by decide) (by decide) (by decide) (by decide) (by decide) (by decide) (Nat.le_of_ble_eq_true rfl) (Nat.le_of_ble_eq_true rfl) hf (fun h22 a23 hf => ?_)
  refine v_putF (pc := 73) ffFo_35 rfl (fun _ => ⟨rfl, rfl⟩) dFo_init_73 hf (fun h24 hf => ?_)
  refine v_aload_n (i := 0) (pc := 76) dFo_init_76 rfl rfl ?_
  refine v_bipush (pc := 77) (37:Int32) dFo_init_77 rfl ?_
  refine v_newI (pc := 79) dFo_init_79 arI (by decide) (Nat.le_of_ble_eq_true rfl) (Nat.le_of_ble_eq_true rfl) hf (fun h25 a26 hf => ?_)
  refine v_putF (pc := 81) ffFo_38 rfl (fun _ => ⟨rfl, rfl⟩) dFo_init_81 hf (fun h27 hf => ?_)
  refine v_iconst (pc := 84) (0:Int32) dFo_init_84 rfl ?_
  refine v_istore_n (i := 1) (pc := 85) (ls' := [some (.ref a_0), some (.int (0:Int32)), none]) dFo_init_85 rfl (by decide) rfl ?_
  refine v_wk (ls' := [some (.ref a_0), some (.int (0:Int32)), none]) ⟨rfl, rfl, trivial⟩ ?_
  exact tFo_init_86 n h27 a_0 (0:Int32) hf
abbrev rmWe_init : Room := { frames := 1, cells := 2, slots := 592, locals := 20 }
def fWe_init (h : MH) (a_0 : Nat) (a_1 : Nat) (a_2 : Nat) : Option MH := (naL h (296:Int32) 296 fun h1 a2 => ((pf h1 a_0 [10] 2 (.ref a2)).bind fun h3 => (naL h3 (296:Int32) 296 fun h4 a5 => ((pf h4 a_0 [10] 3 (.ref a5)).bind fun h6 => ((pf h6 a_0 [10] 0 (.ref a_1)).bind fun h7 => ((pf h7 a_0 [10] 1 (.ref a_2)).bind fun h8 => (some h8)))))))
set_option maxRecDepth 20000 in
set_option maxHeartbeats 4000000 in
theorem sWe_init {g : Gh} {h' : MH} {h : MH} {a_0 : Nat} {a_1 : Nat} {a_2 : Nat} (hf : fWe_init h a_0 a_1 a_2 = some h') : Sp g yWe_init cWe_init 3 none rmWe_init h [.ref a_0, .ref a_1, .ref a_2] h' none := by
  refine sp_of (by decide) (Nat.le_of_ble_eq_true rfl) ?_
  change V g yWe_init cWe_init 3 none rmWe_init (ZQ g rmWe_init h' none) 0 0 h 0 [some (.ref a_0), some (.ref a_1), some (.ref a_2)] []
  unfold fWe_init at hf
  refine v_aload_n (i := 0) (pc := 0) dWe_init_0 rfl rfl ?_
  refine v_objInit (pc := 1) dWe_init_1 mlWe_3 obI obC (by decide) (Nat.le_of_ble_eq_true rfl) ?_
  refine v_aload_n (i := 0) (pc := 4) dWe_init_4 rfl rfl ?_
  refine v_sipush (pc := 5) (296:Int32) dWe_init_5 rfl ?_
  refine v_newL (pc := 8) dWe_init_8 arL (by decide) (Nat.le_of_ble_eq_true rfl) (Nat.le_of_ble_eq_true rfl) hf (fun h1 a2 hf => ?_)
  refine v_putF (pc := 10) ffWe_9 rfl (fun _ => ⟨rfl, rfl⟩) dWe_init_10 hf (fun h3 hf => ?_)
  refine v_aload_n (i := 0) (pc := 13) dWe_init_13 rfl rfl ?_
  refine v_sipush (pc := 14) (296:Int32) dWe_init_14 rfl ?_
  refine v_newL (pc := 17) dWe_init_17 arL (by decide) (Nat.le_of_ble_eq_true rfl) (Nat.le_of_ble_eq_true rfl) hf (fun h4 a5 hf => ?_)
  refine v_putF (pc := 19) ffWe_15 rfl (fun _ => ⟨rfl, rfl⟩) dWe_init_19 hf (fun h6 hf => ?_)
  refine v_aload_n (i := 0) (pc := 22) dWe_init_22 rfl rfl ?_
  refine v_aload_n (i := 1) (pc := 23) dWe_init_23 rfl rfl ?_
  refine v_putF (pc := 24) ffWe_18 rfl (fun _ => ⟨rfl, rfl⟩) dWe_init_24 hf (fun h7 hf => ?_)
  refine v_aload_n (i := 0) (pc := 27) dWe_init_27 rfl rfl ?_
  refine v_aload_n (i := 2) (pc := 28) dWe_init_28 rfl rfl ?_
  refine v_putF (pc := 29) ffWe_22 rfl (fun _ => ⟨rfl, rfl⟩) dWe_init_29 hf (fun h8 hf => ?_)
  exact v_vret (pc := 32) dWe_init_32 (by decide) (by decide) hf
abbrev rmSh_init : Room := { frames := 1, cells := 2, slots := 128, locals := 20 }
def fSh_init (h : MH) (a_0 : Nat) (a_1 : Nat) : Option MH := (naL h (64:Int32) 64 fun h1 a2 => ((pf h1 a_0 [5] 1 (.ref a2)).bind fun h3 => (naL h3 (64:Int32) 64 fun h4 a5 => ((pf h4 a_0 [5] 2 (.ref a5)).bind fun h6 => ((pf h6 a_0 [5] 0 (.ref a_1)).bind fun h7 => (some h7))))))
set_option maxRecDepth 20000 in
set_option maxHeartbeats 4000000 in
theorem sSh_init {g : Gh} {h' : MH} {h : MH} {a_0 : Nat} {a_1 : Nat} (hf : fSh_init h a_0 a_1 = some h') : Sp g ySh_init cSh_init 2 none rmSh_init h [.ref a_0, .ref a_1] h' none := by
  refine sp_of (by decide) (Nat.le_of_ble_eq_true rfl) ?_
  change V g ySh_init cSh_init 2 none rmSh_init (ZQ g rmSh_init h' none) 0 0 h 0 [some (.ref a_0), some (.ref a_1)] []
  unfold fSh_init at hf
  refine v_aload_n (i := 0) (pc := 0) dSh_init_0 rfl rfl ?_
  refine v_objInit (pc := 1) dSh_init_1 mlSh_3 obI obC (by decide) (Nat.le_of_ble_eq_true rfl) ?_
  refine v_aload_n (i := 0) (pc := 4) dSh_init_4 rfl rfl ?_
  refine v_bipush (pc := 5) (64:Int32) dSh_init_5 rfl ?_
  refine v_newL (pc := 7) dSh_init_7 arL (by decide) (Nat.le_of_ble_eq_true rfl) (Nat.le_of_ble_eq_true rfl) hf (fun h1 a2 hf => ?_)
  refine v_putF (pc := 9) ffSh_9 rfl (fun _ => ⟨rfl, rfl⟩) dSh_init_9 hf (fun h3 hf => ?_)
  refine v_aload_n (i := 0) (pc := 12) dSh_init_12 rfl rfl ?_
  refine v_bipush (pc := 13) (64:Int32) dSh_init_13 rfl ?_
  refine v_newL (pc := 15) dSh_init_15 arL (by decide) (Nat.le_of_ble_eq_true rfl) (Nat.le_of_ble_eq_true rfl) hf (fun h4 a5 hf => ?_)
  refine v_putF (pc := 17) ffSh_15 rfl (fun _ => ⟨rfl, rfl⟩) dSh_init_17 hf (fun h6 hf => ?_)
  refine v_aload_n (i := 0) (pc := 20) dSh_init_20 rfl rfl ?_
  refine v_aload_n (i := 1) (pc := 21) dSh_init_21 rfl rfl ?_
  refine v_putF (pc := 22) ffSh_18 rfl (fun _ => ⟨rfl, rfl⟩) dSh_init_22 hf (fun h7 hf => ?_)
  exact v_vret (pc := 25) dSh_init_25 (by decide) (by decide) hf
abbrev rmTr_init : Room := { frames := 1, cells := 1, slots := 16, locals := 20 }
def fTr_init (h : MH) (a_0 : Nat) : Option MH := (naI h (16:Int32) 16 fun h1 a2 => ((pf h1 a_0 [9] 0 (.ref a2)).bind fun h3 => ((pf h3 a_0 [9] 1 (.int (0:Int32))).bind fun h4 => (some h4))))
set_option maxRecDepth 20000 in
set_option maxHeartbeats 4000000 in
theorem sTr_init {g : Gh} {h' : MH} {h : MH} {a_0 : Nat} (hf : fTr_init h a_0 = some h') : Sp g yTr_init cTr_init 1 none rmTr_init h [.ref a_0] h' none := by
  refine sp_of (by decide) (Nat.le_of_ble_eq_true rfl) ?_
  change V g yTr_init cTr_init 1 none rmTr_init (ZQ g rmTr_init h' none) 0 0 h 0 [some (.ref a_0)] []
  unfold fTr_init at hf
  refine v_aload_n (i := 0) (pc := 0) dTr_init_0 rfl rfl ?_
  refine v_objInit (pc := 1) dTr_init_1 mlTr_1 obI obC (by decide) (Nat.le_of_ble_eq_true rfl) ?_
  refine v_aload_n (i := 0) (pc := 4) dTr_init_4 rfl rfl ?_
  refine v_bipush (pc := 5) (16:Int32) dTr_init_5 rfl ?_
  refine v_newI (pc := 7) dTr_init_7 arI (by decide) (Nat.le_of_ble_eq_true rfl) (Nat.le_of_ble_eq_true rfl) hf (fun h1 a2 hf => ?_)
  refine v_putF (pc := 9) ffTr_9 rfl (fun _ => ⟨rfl, rfl⟩) dTr_init_9 hf (fun h3 hf => ?_)
  refine v_aload_n (i := 0) (pc := 12) dTr_init_12 rfl rfl ?_
  refine v_iconst (pc := 13) (0:Int32) dTr_init_13 rfl ?_
  refine v_put (pc := 14) fpTr_13 (fun _ => ⟨rfl, rfl⟩) dTr_init_14 hf (fun h4 hf => ?_)
  exact v_vret (pc := 17) dTr_init_17 (by decide) (by decide) hf
abbrev rmSt_init : Room := { frames := 1, cells := 1, slots := 80, locals := 20 }
def fSt_init (h : MH) (a_0 : Nat) : Option MH := (naL h (80:Int32) 80 fun h1 a2 => ((pf h1 a_0 [6] 0 (.ref a2)).bind fun h3 => ((pf h3 a_0 [6] 1 (.int (-1:Int32))).bind fun h4 => ((pf h4 a_0 [6] 2 (.int (0:Int32))).bind fun h5 => (some h5)))))
set_option maxRecDepth 20000 in
set_option maxHeartbeats 4000000 in
theorem sSt_init {g : Gh} {h' : MH} {h : MH} {a_0 : Nat} (hf : fSt_init h a_0 = some h') : Sp g ySt_init cSt_init 1 none rmSt_init h [.ref a_0] h' none := by
  refine sp_of (by decide) (Nat.le_of_ble_eq_true rfl) ?_
  change V g ySt_init cSt_init 1 none rmSt_init (ZQ g rmSt_init h' none) 0 0 h 0 [some (.ref a_0)] []
  unfold fSt_init at hf
  refine v_aload_n (i := 0) (pc := 0) dSt_init_0 rfl rfl ?_
  refine v_objInit (pc := 1) dSt_init_1 mlSt_3 obI obC (by decide) (Nat.le_of_ble_eq_true rfl) ?_
  refine v_aload_n (i := 0) (pc := 4) dSt_init_4 rfl rfl ?_
  refine v_bipush (pc := 5) (80:Int32) dSt_init_5 rfl ?_
  refine v_newL (pc := 7) dSt_init_7 arL (by decide) (Nat.le_of_ble_eq_true rfl) (Nat.le_of_ble_eq_true rfl) hf (fun h1 a2 hf => ?_)
  refine v_putF (pc := 9) ffSt_9 rfl (fun _ => ⟨rfl, rfl⟩) dSt_init_9 hf (fun h3 hf => ?_)
  refine v_aload_n (i := 0) (pc := 12) dSt_init_12 rfl rfl ?_
  refine v_iconst (pc := 13) (-1:Int32) dSt_init_13 rfl ?_
  refine v_put (pc := 14) fpSt_15 (fun _ => ⟨rfl, rfl⟩) dSt_init_14 hf (fun h4 hf => ?_)
  refine v_aload_n (i := 0) (pc := 17) dSt_init_17 rfl rfl ?_
  refine v_iconst (pc := 18) (0:Int32) dSt_init_18 rfl ?_
  refine v_put (pc := 19) fpSt_19 (fun _ => ⟨rfl, rfl⟩) dSt_init_19 hf (fun h5 hf => ?_)
  exact v_vret (pc := 22) dSt_init_22 (by decide) (by decide) hf
abbrev rmX_init : Room := { frames := 3, cells := 112, slots := 3369, locals := 73 }
def fX_init_16 (n : Nat) (h : MH) (x0 : Nat) : Option MH := (alc h (cO 0 [.null, .null, .null, .null, .null, .null, .null, .null, .null]) fun h1 a2 => ((fFo_init n h1 a2).bind fun h3 => ((pf h3 x0 [11] 1 (.ref a2)).bind fun h4 => (alc h4 (cO 10 [.null, .null, .null, .null]) fun h5 a6 => ((gfR h5 x0 [11] 0).bind fun a7 => ((gfR h5 x0 [11] 1).bind fun a8 => ((fWe_init h5 a6 a7 a8).bind fun h9 => ((pf h9 x0 [11] 2 (.ref a6)).bind fun h10 => (alc h10 (cO 5 [.null, .null, .null]) fun h11 a12 => ((gfR h11 x0 [11] 0).bind fun a13 => ((fSh_init h11 a12 a13).bind fun h14 => ((pf h14 x0 [11] 3 (.ref a12)).bind fun h15 => (alc h15 (cO 9 [.null, .int 0]) fun h16 a17 => ((fTr_init h16 a17).bind fun h18 => ((pf h18 x0 [11] 4 (.ref a17)).bind fun h19 => (naR h19 3 (8:Int32) 8 fun h20 a21 => ((pf h20 x0 [11] 5 (.ref a21)).bind fun h22 => ((gfR h22 x0 [11] 5).bind fun a23 => (alc h22 (cO 6 [.null, .int 0, .int 0]) fun h24 a25 => ((fSt_init h24 a25).bind fun h26 => ((wrO h26 a23 3 (0:Int32) a25).bind fun h27 => ((gfR h27 x0 [11] 5).bind fun a28 => (alc h27 (cO 6 [.null, .int 0, .int 0]) fun h29 a30 => ((fSt_init h29 a30).bind fun h31 => ((wrO h31 a28 3 (1:Int32) a30).bind fun h32 => ((gfR h32 x0 [11] 5).bind fun a33 => (alc h32 (cO 6 [.null, .int 0, .int 0]) fun h34 a35 => ((fSt_init h34 a35).bind fun h36 => ((wrO h36 a33 3 (2:Int32) a35).bind fun h37 => ((gfR h37 x0 [11] 5).bind fun a38 => (alc h37 (cO 6 [.null, .int 0, .int 0]) fun h39 a40 => ((fSt_init h39 a40).bind fun h41 => ((wrO h41 a38 3 (3:Int32) a40).bind fun h42 => ((gfR h42 x0 [11] 5).bind fun a43 => (alc h42 (cO 6 [.null, .int 0, .int 0]) fun h44 a45 => ((fSt_init h44 a45).bind fun h46 => ((wrO h46 a43 3 (4:Int32) a45).bind fun h47 => ((gfR h47 x0 [11] 5).bind fun a48 => (alc h47 (cO 6 [.null, .int 0, .int 0]) fun h49 a50 => ((fSt_init h49 a50).bind fun h51 => ((wrO h51 a48 3 (5:Int32) a50).bind fun h52 => ((gfR h52 x0 [11] 5).bind fun a53 => (alc h52 (cO 6 [.null, .int 0, .int 0]) fun h54 a55 => ((fSt_init h54 a55).bind fun h56 => ((wrO h56 a53 3 (6:Int32) a55).bind fun h57 => ((gfR h57 x0 [11] 5).bind fun a58 => (alc h57 (cO 6 [.null, .int 0, .int 0]) fun h59 a60 => ((fSt_init h59 a60).bind fun h61 => ((wrO h61 a58 3 (7:Int32) a60).bind fun h62 => (naR h62 4 (10:Int32) 10 fun h63 a64 => ((pf h63 x0 [11] 6 (.ref a64)).bind fun h65 => (naL h65 (8:Int32) 8 fun h66 a67 => ((pf h66 x0 [11] 7 (.ref a67)).bind fun h68 => (some h68))))))))))))))))))))))))))))))))))))))))))))))))))))))
set_option maxRecDepth 20000 in
set_option maxHeartbeats 4000000 in
theorem tX_init_16 {g : Gh} {h' : MH} (n : Nat) (h : MH) (x0 : Nat) (hf : fX_init_16 n h x0 = some h') : V g yX_init cX_init 3 none rmX_init (ZQ g rmX_init h' none) 1 1 h 16 [some (.ref x0), none, none] [] := by
  unfold fX_init_16 at hf
  refine v_aload_n (i := 0) (pc := 16) dX_init_16 rfl rfl ?_
  refine v_new (pc := 17) noX_18 dX_init_17 (Nat.le_of_ble_eq_true rfl) (Nat.le_of_ble_eq_true rfl) hf (fun h1 a2 hf => ?_)
  refine v_dup (pc := 20) dX_init_20 rfl ?_
  obtain ⟨h3, e80, hf⟩ := bnd hf
  refine v_I0 (pc := 21) (As := []) (rest := [.ref a2, .ref x0]) liX_20 (sFo_init e80) ⟨Nat.le_of_ble_eq_true rfl, Nat.le_of_ble_eq_true rfl, Nat.le_of_ble_eq_true rfl, Nat.le_of_ble_eq_true rfl⟩ dX_init_21 rfl rfl (Nat.le_of_ble_eq_true rfl) ?_
  refine v_putF (pc := 24) ffX_21 rfl (fun _ => ⟨rfl, rfl⟩) dX_init_24 hf (fun h4 hf => ?_)
  refine v_aload_n (i := 0) (pc := 27) dX_init_27 rfl rfl ?_
  refine v_new (pc := 28) noX_25 dX_init_28 (Nat.le_of_ble_eq_true rfl) (Nat.le_of_ble_eq_true rfl) hf (fun h5 a6 hf => ?_)
  refine v_dup (pc := 31) dX_init_31 rfl ?_
  refine v_aload_n (i := 0) (pc := 32) dX_init_32 rfl rfl ?_
  refine v_getR (pc := 33) fgX_12 dX_init_33 hf (fun a7 hf => ?_)
  refine v_aload_n (i := 0) (pc := 36) dX_init_36 rfl rfl ?_
  refine v_getR (pc := 37) fgX_21 dX_init_37 hf (fun a8 hf => ?_)
  obtain ⟨h9, e79, hf⟩ := bnd hf
  refine v_I0 (pc := 40) (As := [.ref a7, .ref a8]) (rest := [.ref a6, .ref x0]) liX_27 (sWe_init e79) ⟨Nat.le_of_ble_eq_true rfl, Nat.le_of_ble_eq_true rfl, Nat.le_of_ble_eq_true rfl, Nat.le_of_ble_eq_true rfl⟩ dX_init_40 rfl rfl (Nat.le_of_ble_eq_true rfl) ?_
  refine v_putF (pc := 43) ffX_30 rfl (fun _ => ⟨rfl, rfl⟩) dX_init_43 hf (fun h10 hf => ?_)
  refine v_aload_n (i := 0) (pc := 46) dX_init_46 rfl rfl ?_
  refine v_new (pc := 47) noX_34 dX_init_47 (Nat.le_of_ble_eq_true rfl) (Nat.le_of_ble_eq_true rfl) hf (fun h11 a12 hf => ?_)
  refine v_dup (pc := 50) dX_init_50 rfl ?_
  refine v_aload_n (i := 0) (pc := 51) dX_init_51 rfl rfl ?_
  refine v_getR (pc := 52) fgX_12 dX_init_52 hf (fun a13 hf => ?_)
  obtain ⟨h14, e78, hf⟩ := bnd hf
  refine v_I0 (pc := 55) (As := [.ref a13]) (rest := [.ref a12, .ref x0]) liX_36 (sSh_init e78) ⟨Nat.le_of_ble_eq_true rfl, Nat.le_of_ble_eq_true rfl, Nat.le_of_ble_eq_true rfl, Nat.le_of_ble_eq_true rfl⟩ dX_init_55 rfl rfl (Nat.le_of_ble_eq_true rfl) ?_
  refine v_putF (pc := 58) ffX_39 rfl (fun _ => ⟨rfl, rfl⟩) dX_init_58 hf (fun h15 hf => ?_)
  refine v_aload_n (i := 0) (pc := 61) dX_init_61 rfl rfl ?_
  refine v_new (pc := 62) noX_43 dX_init_62 (Nat.le_of_ble_eq_true rfl) (Nat.le_of_ble_eq_true rfl) hf (fun h16 a17 hf => ?_)
  refine v_dup (pc := 65) dX_init_65 rfl ?_
  obtain ⟨h18, e77, hf⟩ := bnd hf
  refine v_I0 (pc := 66) (As := []) (rest := [.ref a17, .ref x0]) liX_45 (sTr_init e77) ⟨Nat.le_of_ble_eq_true rfl, Nat.le_of_ble_eq_true rfl, Nat.le_of_ble_eq_true rfl, Nat.le_of_ble_eq_true rfl⟩ dX_init_66 rfl rfl (Nat.le_of_ble_eq_true rfl) ?_
  refine v_putF (pc := 69) ffX_46 rfl (fun _ => ⟨rfl, rfl⟩) dX_init_69 hf (fun h19 hf => ?_)
  refine v_aload_n (i := 0) (pc := 72) dX_init_72 rfl rfl ?_
  refine v_bipush (pc := 73) (8:Int32) dX_init_73 rfl ?_
  refine v_newR (pc := 75) (Or.inl rfl) dX_init_75 clX_50 (by decide) (Nat.le_of_ble_eq_true rfl) (Nat.le_of_ble_eq_true rfl) hf (fun h20 a21 hf => ?_)
  refine v_putF (pc := 78) ffX_52 rfl (fun _ => ⟨rfl, rfl⟩) dX_init_78 hf (fun h22 hf => ?_)
  refine v_iconst (pc := 81) (0:Int32) dX_init_81 rfl ?_
  refine v_istore_n (i := 2) (pc := 82) (ls' := [some (.ref x0), none, some (.int (0:Int32))]) dX_init_82 rfl (by decide) rfl ?_
  refine v_iload_n (i := 2) (pc := 83) dX_init_83 rfl rfl ?_
  refine v_bipush (pc := 84) (8:Int32) dX_init_84 rfl ?_
  refine v_icmp_ge_F (pc := 86) (tgt := 108) dX_init_86 rfl (by decide) ?_
  refine v_aload_n (i := 0) (pc := 89) dX_init_89 rfl rfl ?_
  refine v_getR (pc := 90) fgX_52 dX_init_90 hf (fun a23 hf => ?_)
  refine v_iload_n (i := 2) (pc := 93) dX_init_93 rfl rfl ?_
  refine v_new (pc := 94) noX_50 dX_init_94 (Nat.le_of_ble_eq_true rfl) (Nat.le_of_ble_eq_true rfl) hf (fun h24 a25 hf => ?_)
  refine v_dup (pc := 97) dX_init_97 rfl ?_
  obtain ⟨h26, e76, hf⟩ := bnd hf
  refine v_I0 (pc := 98) (As := []) (rest := [.ref a25, .int (0:Int32), .ref a23]) liX_56 (sSt_init e76) ⟨Nat.le_of_ble_eq_true rfl, Nat.le_of_ble_eq_true rfl, Nat.le_of_ble_eq_true rfl, Nat.le_of_ble_eq_true rfl⟩ dX_init_98 rfl rfl (Nat.le_of_ble_eq_true rfl) ?_
  refine v_aast (pc := 101) dX_init_101 hf (fun h27 hf => ?_)
  refine v_iinc (pc := 102) (v := (1:Int32)) (ls' := [some (.ref x0), none, some (.int (1:Int32))]) dX_init_102 rfl rfl (by decide) rfl ?_
  refine v_goto (pc := 105) (tgt := 83) dX_init_105 rfl ?_
  refine v_iload_n (i := 2) (pc := 83) dX_init_83 rfl rfl ?_
  refine v_bipush (pc := 84) (8:Int32) dX_init_84 rfl ?_
  refine v_icmp_ge_F (pc := 86) (tgt := 108) dX_init_86 rfl (by decide) ?_
  refine v_aload_n (i := 0) (pc := 89) dX_init_89 rfl rfl ?_
  refine v_getR (pc := 90) fgX_52 dX_init_90 hf (fun a28 hf => ?_)
  refine v_iload_n (i := 2) (pc := 93) dX_init_93 rfl rfl ?_
  refine v_new (pc := 94) noX_50 dX_init_94 (Nat.le_of_ble_eq_true rfl) (Nat.le_of_ble_eq_true rfl) hf (fun h29 a30 hf => ?_)
  refine v_dup (pc := 97) dX_init_97 rfl ?_
  obtain ⟨h31, e75, hf⟩ := bnd hf
  refine v_I0 (pc := 98) (As := []) (rest := [.ref a30, .int (1:Int32), .ref a28]) liX_56 (sSt_init e75) ⟨Nat.le_of_ble_eq_true rfl, Nat.le_of_ble_eq_true rfl, Nat.le_of_ble_eq_true rfl, Nat.le_of_ble_eq_true rfl⟩ dX_init_98 rfl rfl (Nat.le_of_ble_eq_true rfl) ?_
  refine v_aast (pc := 101) dX_init_101 hf (fun h32 hf => ?_)
  refine v_iinc (pc := 102) (v := (2:Int32)) (ls' := [some (.ref x0), none, some (.int (2:Int32))]) dX_init_102 rfl rfl (by decide) rfl ?_
  refine v_goto (pc := 105) (tgt := 83) dX_init_105 rfl ?_
  refine v_iload_n (i := 2) (pc := 83) dX_init_83 rfl rfl ?_
  refine v_bipush (pc := 84) (8:Int32) dX_init_84 rfl ?_
  refine v_icmp_ge_F (pc := 86) (tgt := 108) dX_init_86 rfl (by decide) ?_
  refine v_aload_n (i := 0) (pc := 89) dX_init_89 rfl rfl ?_
  refine v_getR (pc := 90) fgX_52 dX_init_90 hf (fun a33 hf => ?_)
  refine v_iload_n (i := 2) (pc := 93) dX_init_93 rfl rfl ?_
  refine v_new (pc := 94) noX_50 dX_init_94 (Nat.le_of_ble_eq_true rfl) (Nat.le_of_ble_eq_true rfl) hf (fun h34 a35 hf => ?_)
  refine v_dup (pc := 97) dX_init_97 rfl ?_
  obtain ⟨h36, e74, hf⟩ := bnd hf
  refine v_I0 (pc := 98) (As := []) (rest := [.ref a35, .int (2:Int32), .ref a33]) liX_56 (sSt_init e74) ⟨Nat.le_of_ble_eq_true rfl, Nat.le_of_ble_eq_true rfl, Nat.le_of_ble_eq_true rfl, Nat.le_of_ble_eq_true rfl⟩ dX_init_98 rfl rfl (Nat.le_of_ble_eq_true rfl) ?_
  refine v_aast (pc := 101) dX_init_101 hf (fun h37 hf => ?_)
  refine v_iinc (pc := 102) (v := (3:Int32)) (ls' := [some (.ref x0), none, some (.int (3:Int32))]) dX_init_102 rfl rfl (by decide) rfl ?_
  refine v_goto (pc := 105) (tgt := 83) dX_init_105 rfl ?_
  refine v_iload_n (i := 2) (pc := 83) dX_init_83 rfl rfl ?_
  refine v_bipush (pc := 84) (8:Int32) dX_init_84 rfl ?_
  refine v_icmp_ge_F (pc := 86) (tgt := 108) dX_init_86 rfl (by decide) ?_
  refine v_aload_n (i := 0) (pc := 89) dX_init_89 rfl rfl ?_
  refine v_getR (pc := 90) fgX_52 dX_init_90 hf (fun a38 hf => ?_)
  refine v_iload_n (i := 2) (pc := 93) dX_init_93 rfl rfl ?_
  refine v_new (pc := 94) noX_50 dX_init_94 (Nat.le_of_ble_eq_true rfl) (Nat.le_of_ble_eq_true rfl) hf (fun h39 a40 hf => ?_)
  refine v_dup (pc := 97) dX_init_97 rfl ?_
  obtain ⟨h41, e73, hf⟩ := bnd hf
  refine v_I0 (pc := 98) (As := []) (rest := [.ref a40, .int (3:Int32), .ref a38]) liX_56 (sSt_init e73) ⟨Nat.le_of_ble_eq_true rfl, Nat.le_of_ble_eq_true rfl, Nat.le_of_ble_eq_true rfl, Nat.le_of_ble_eq_true rfl⟩ dX_init_98 rfl rfl (Nat.le_of_ble_eq_true rfl) ?_
  refine v_aast (pc := 101) dX_init_101 hf (fun h42 hf => ?_)
  refine v_iinc (pc := 102) (v := (4:Int32)) (ls' := [some (.ref x0), none, some (.int (4:Int32))]) dX_init_102 rfl rfl (by decide) rfl ?_
  refine v_goto (pc := 105) (tgt := 83) dX_init_105 rfl ?_
  refine v_iload_n (i := 2) (pc := 83) dX_init_83 rfl rfl ?_
  refine v_bipush (pc := 84) (8:Int32) dX_init_84 rfl ?_
  refine v_icmp_ge_F (pc := 86) (tgt := 108) dX_init_86 rfl (by decide) ?_
  refine v_aload_n (i := 0) (pc := 89) dX_init_89 rfl rfl ?_
  refine v_getR (pc := 90) fgX_52 dX_init_90 hf (fun a43 hf => ?_)
  refine v_iload_n (i := 2) (pc := 93) dX_init_93 rfl rfl ?_
  refine v_new (pc := 94) noX_50 dX_init_94 (Nat.le_of_ble_eq_true rfl) (Nat.le_of_ble_eq_true rfl) hf (fun h44 a45 hf => ?_)
  refine v_dup (pc := 97) dX_init_97 rfl ?_
  obtain ⟨h46, e72, hf⟩ := bnd hf
  refine v_I0 (pc := 98) (As := []) (rest := [.ref a45, .int (4:Int32), .ref a43]) liX_56 (sSt_init e72) ⟨Nat.le_of_ble_eq_true rfl, Nat.le_of_ble_eq_true rfl, Nat.le_of_ble_eq_true rfl, Nat.le_of_ble_eq_true rfl⟩ dX_init_98 rfl rfl (Nat.le_of_ble_eq_true rfl) ?_
  refine v_aast (pc := 101) dX_init_101 hf (fun h47 hf => ?_)
  refine v_iinc (pc := 102) (v := (5:Int32)) (ls' := [some (.ref x0), none, some (.int (5:Int32))]) dX_init_102 rfl rfl (by decide) rfl ?_
  refine v_goto (pc := 105) (tgt := 83) dX_init_105 rfl ?_
  refine v_iload_n (i := 2) (pc := 83) dX_init_83 rfl rfl ?_
  refine v_bipush (pc := 84) (8:Int32) dX_init_84 rfl ?_
  refine v_icmp_ge_F (pc := 86) (tgt := 108) dX_init_86 rfl (by decide) ?_
  refine v_aload_n (i := 0) (pc := 89) dX_init_89 rfl rfl ?_
  refine v_getR (pc := 90) fgX_52 dX_init_90 hf (fun a48 hf => ?_)
  refine v_iload_n (i := 2) (pc := 93) dX_init_93 rfl rfl ?_
  refine v_new (pc := 94) noX_50 dX_init_94 (Nat.le_of_ble_eq_true rfl) (Nat.le_of_ble_eq_true rfl) hf (fun h49 a50 hf => ?_)
  refine v_dup (pc := 97) dX_init_97 rfl ?_
  obtain ⟨h51, e71, hf⟩ := bnd hf
  refine v_I0 (pc := 98) (As := []) (rest := [.ref a50, .int (5:Int32), .ref a48]) liX_56 (sSt_init e71) ⟨Nat.le_of_ble_eq_true rfl, Nat.le_of_ble_eq_true rfl, Nat.le_of_ble_eq_true rfl, Nat.le_of_ble_eq_true rfl⟩ dX_init_98 rfl rfl (Nat.le_of_ble_eq_true rfl) ?_
  refine v_aast (pc := 101) dX_init_101 hf (fun h52 hf => ?_)
  refine v_iinc (pc := 102) (v := (6:Int32)) (ls' := [some (.ref x0), none, some (.int (6:Int32))]) dX_init_102 rfl rfl (by decide) rfl ?_
  refine v_goto (pc := 105) (tgt := 83) dX_init_105 rfl ?_
  refine v_iload_n (i := 2) (pc := 83) dX_init_83 rfl rfl ?_
  refine v_bipush (pc := 84) (8:Int32) dX_init_84 rfl ?_
  refine v_icmp_ge_F (pc := 86) (tgt := 108) dX_init_86 rfl (by decide) ?_
  refine v_aload_n (i := 0) (pc := 89) dX_init_89 rfl rfl ?_
  refine v_getR (pc := 90) fgX_52 dX_init_90 hf (fun a53 hf => ?_)
  refine v_iload_n (i := 2) (pc := 93) dX_init_93 rfl rfl ?_
  refine v_new (pc := 94) noX_50 dX_init_94 (Nat.le_of_ble_eq_true rfl) (Nat.le_of_ble_eq_true rfl) hf (fun h54 a55 hf => ?_)
  refine v_dup (pc := 97) dX_init_97 rfl ?_
  obtain ⟨h56, e70, hf⟩ := bnd hf
  refine v_I0 (pc := 98) (As := []) (rest := [.ref a55, .int (6:Int32), .ref a53]) liX_56 (sSt_init e70) ⟨Nat.le_of_ble_eq_true rfl, Nat.le_of_ble_eq_true rfl, Nat.le_of_ble_eq_true rfl, Nat.le_of_ble_eq_true rfl⟩ dX_init_98 rfl rfl (Nat.le_of_ble_eq_true rfl) ?_
  refine v_aast (pc := 101) dX_init_101 hf (fun h57 hf => ?_)
  refine v_iinc (pc := 102) (v := (7:Int32)) (ls' := [some (.ref x0), none, some (.int (7:Int32))]) dX_init_102 rfl rfl (by decide) rfl ?_
  refine v_goto (pc := 105) (tgt := 83) dX_init_105 rfl ?_
  refine v_iload_n (i := 2) (pc := 83) dX_init_83 rfl rfl ?_
  refine v_bipush (pc := 84) (8:Int32) dX_init_84 rfl ?_
  refine v_icmp_ge_F (pc := 86) (tgt := 108) dX_init_86 rfl (by decide) ?_
  refine v_aload_n (i := 0) (pc := 89) dX_init_89 rfl rfl ?_
  refine v_getR (pc := 90) fgX_52 dX_init_90 hf (fun a58 hf => ?_)
  refine v_iload_n (i := 2) (pc := 93) dX_init_93 rfl rfl ?_
  refine v_new (pc := 94) noX_50 dX_init_94 (Nat.le_of_ble_eq_true rfl) (Nat.le_of_ble_eq_true rfl) hf (fun h59 a60 hf => ?_)
  refine v_dup (pc := 97) dX_init_97 rfl ?_
  obtain ⟨h61, e69, hf⟩ := bnd hf
  refine v_I0 (pc := 98) (As := []) (rest := [.ref a60, .int (7:Int32), .ref a58]) liX_56 (sSt_init e69) ⟨Nat.le_of_ble_eq_true rfl, Nat.le_of_ble_eq_true rfl, Nat.le_of_ble_eq_true rfl, Nat.le_of_ble_eq_true rfl⟩ dX_init_98 rfl rfl (Nat.le_of_ble_eq_true rfl) ?_
  refine v_aast (pc := 101) dX_init_101 hf (fun h62 hf => ?_)
  refine v_iinc (pc := 102) (v := (8:Int32)) (ls' := [some (.ref x0), none, some (.int (8:Int32))]) dX_init_102 rfl rfl (by decide) rfl ?_
  refine v_goto (pc := 105) (tgt := 83) dX_init_105 rfl ?_
  refine v_iload_n (i := 2) (pc := 83) dX_init_83 rfl rfl ?_
  refine v_bipush (pc := 84) (8:Int32) dX_init_84 rfl ?_
  refine v_icmp_ge_T (pc := 86) (tgt := 108) dX_init_86 rfl (by decide) ?_
  refine v_aload_n (i := 0) (pc := 108) dX_init_108 rfl rfl ?_
  refine v_bipush (pc := 109) (10:Int32) dX_init_109 rfl ?_
  refine v_newR (pc := 111) (Or.inr rfl) dX_init_111 clX_57 (by decide) (Nat.le_of_ble_eq_true rfl) (Nat.le_of_ble_eq_true rfl) hf (fun h63 a64 hf => ?_)
  refine v_putF (pc := 114) ffX_59 rfl (fun _ => ⟨rfl, rfl⟩) dX_init_114 hf (fun h65 hf => ?_)
  refine v_aload_n (i := 0) (pc := 117) dX_init_117 rfl rfl ?_
  refine v_bipush (pc := 118) (8:Int32) dX_init_118 rfl ?_
  refine v_newL (pc := 120) dX_init_120 arL (by decide) (Nat.le_of_ble_eq_true rfl) (Nat.le_of_ble_eq_true rfl) hf (fun h66 a67 hf => ?_)
  refine v_putF (pc := 122) ffX_63 rfl (fun _ => ⟨rfl, rfl⟩) dX_init_122 hf (fun h68 hf => ?_)
  exact v_vret (pc := 125) dX_init_125 (by decide) (by decide) hf
def fX_init (n : Nat) (h : MH) (a_0 : Nat) (i_1 : Int32) : Option MH := (alc h (cO 3 [.long 0]) fun h1 a2 => ((fMo_init n h1 a2 i_1).bind fun h3 => ((pf h3 a_0 [11] 0 (.ref a2)).bind fun h4 => (fX_init_16 n h4 a_0))))
set_option maxRecDepth 20000 in
set_option maxHeartbeats 4000000 in
theorem sX_init {g : Gh} {h' : MH} {n : Nat} {h : MH} {a_0 : Nat} {i_1 : Int32} (hf : fX_init n h a_0 i_1 = some h') : Sp g yX_init cX_init 3 none rmX_init h [.ref a_0, .int i_1] h' none := by
  refine sp_of (by decide) (Nat.le_of_ble_eq_true rfl) ?_
  change V g yX_init cX_init 3 none rmX_init (ZQ g rmX_init h' none) 0 0 h 0 [some (.ref a_0), some (.int i_1), none] []
  unfold fX_init at hf
  refine v_aload_n (i := 0) (pc := 0) dX_init_0 rfl rfl ?_
  refine v_objInit (pc := 1) dX_init_1 mlX_1 obI obC (by decide) (Nat.le_of_ble_eq_true rfl) ?_
  refine v_aload_n (i := 0) (pc := 4) dX_init_4 rfl rfl ?_
  refine v_new (pc := 5) noX_7 dX_init_5 (Nat.le_of_ble_eq_true rfl) (Nat.le_of_ble_eq_true rfl) hf (fun h1 a2 hf => ?_)
  refine v_dup (pc := 8) dX_init_8 rfl ?_
  refine v_iload_n (i := 1) (pc := 9) dX_init_9 rfl rfl ?_
  obtain ⟨h3, e5, hf⟩ := bnd hf
  refine v_I0 (pc := 10) (As := [.int i_1]) (rest := [.ref a2, .ref a_0]) liX_9 (sMo_init e5) ⟨Nat.le_of_ble_eq_true rfl, Nat.le_of_ble_eq_true rfl, Nat.le_of_ble_eq_true rfl, Nat.le_of_ble_eq_true rfl⟩ dX_init_10 rfl rfl (Nat.le_of_ble_eq_true rfl) ?_
  refine v_putF (pc := 13) ffX_12 rfl (fun _ => ⟨rfl, rfl⟩) dX_init_13 hf (fun h4 hf => ?_)
  refine v_wk (ls' := [some (.ref a_0), none, none]) ⟨rfl, trivial⟩ ?_
  exact tX_init_16 n h4 a_0 hf
abbrev rmX_noSheet : Room := { frames := 0, cells := 0, slots := 0, locals := 0 }
def fX_noSheet_10 (n : Nat) (h : MH) : Option (MH × Int32) := (retZ h (1:Int32))
set_option maxRecDepth 20000 in
set_option maxHeartbeats 4000000 in
theorem tX_noSheet_10 {g : Gh} {h' : MH} {r' : Int32} (n : Nat) (h : MH) (hf : fX_noSheet_10 n h = some (h', r')) : V g yX_noSheet cX_noSheet 1 (some .boolean) rmX_noSheet (ZQ g rmX_noSheet h' (some (.int r'))) 0 0 h 10 [none] [] := by
  unfold fX_noSheet_10 at hf
  refine v_iconst (pc := 10) (1:Int32) dX_noSheet_10 rfl ?_
  refine v_goto (pc := 11) (tgt := 15) dX_noSheet_11 rfl ?_
  exact v_zret (pc := 15) dX_noSheet_15 (by decide) (by decide) hf
def fX_noSheet (n : Nat) (h : MH) (i_0 : Int32) : Option (MH × Int32) := (if i_0 < (0:Int32) then (fX_noSheet_10 n h) else (if i_0 < (8:Int32) then (retZ h (0:Int32)) else (fX_noSheet_10 n h)))
set_option maxRecDepth 20000 in
set_option maxHeartbeats 4000000 in
theorem sX_noSheet {g : Gh} {h' : MH} {r' : Int32} {n : Nat} {h : MH} {i_0 : Int32} (hf : fX_noSheet n h i_0 = some (h', r')) : Sp g yX_noSheet cX_noSheet 1 (some .boolean) rmX_noSheet h [.int i_0] h' (some (.int r')) := by
  refine sp_of (by decide) (Nat.le_of_ble_eq_true rfl) ?_
  change V g yX_noSheet cX_noSheet 1 (some .boolean) rmX_noSheet (ZQ g rmX_noSheet h' (some (.int r'))) 0 0 h 0 [some (.int i_0)] []
  unfold fX_noSheet at hf
  refine v_iload_n (i := 0) (pc := 0) dX_noSheet_0 rfl rfl ?_
  refine v_if_lt (pc := 1) (tgt := 10) dX_noSheet_1 rfl hf (fun hf => ?_) (fun hf => ?_)
  · refine v_wk (ls' := [none]) trivial ?_
    exact tX_noSheet_10 n h hf
  refine v_iload_n (i := 0) (pc := 4) dX_noSheet_4 rfl rfl ?_
  refine v_bipush (pc := 5) (8:Int32) dX_noSheet_5 rfl ?_
  refine v_icmp_lt (pc := 7) (tgt := 14) dX_noSheet_7 rfl hf (fun hf => ?_) (fun hf => ?_)
  · refine v_iconst (pc := 14) (0:Int32) dX_noSheet_14 rfl ?_
    exact v_zret (pc := 15) dX_noSheet_15 (by decide) (by decide) hf
  refine v_wk (ls' := [none]) trivial ?_
  exact tX_noSheet_10 n h hf
abbrev rmX_found : Room := { frames := 0, cells := 0, slots := 0, locals := 0 }
def fX_found (h : MH) (a_0 : Nat) (i_1 : Int32) : Option (MH × Int32) := ((pf h a_0 [11] 8 (.int i_1)).bind fun h1 => (some (h1, ((-1000010:Int32) - i_1))))
set_option maxRecDepth 20000 in
set_option maxHeartbeats 4000000 in
theorem sX_found {g : Gh} {h' : MH} {r' : Int32} {h : MH} {a_0 : Nat} {i_1 : Int32} (hf : fX_found h a_0 i_1 = some (h', r')) : Sp g yX_found cX_found 2 (some .int) rmX_found h [.ref a_0, .int i_1] h' (some (.int r')) := by
  refine sp_of (by decide) (Nat.le_of_ble_eq_true rfl) ?_
  change V g yX_found cX_found 2 (some .int) rmX_found (ZQ g rmX_found h' (some (.int r'))) 0 0 h 0 [some (.ref a_0), some (.int i_1)] []
  unfold fX_found at hf
  refine v_aload_n (i := 0) (pc := 0) dX_found_0 rfl rfl ?_
  refine v_iload_n (i := 1) (pc := 1) dX_found_1 rfl rfl ?_
  refine v_put (pc := 2) fpX_93 (fun _ => ⟨rfl, rfl⟩) dX_found_2 hf (fun h1 hf => ?_)
  refine v_ldc (pc := 5) dX_found_5 kiX_244 ?_
  refine v_iload_n (i := 1) (pc := 7) dX_found_7 rfl rfl ?_
  refine v_isub (pc := 8) dX_found_8 ?_
  exact v_iret (pc := 9) dX_found_9 (by decide) (by decide) hf
abbrev rmSt_begin : Room := { frames := 0, cells := 0, slots := 0, locals := 0 }
def bSt_begin_12 (n : Nat) (k12 : (MH × Nat × Int32) → Option MH) (h : MH) (x0 : Nat) (x3 : Int32) : Option MH := (if (80:Int32) ≤ x3 then (some h) else ((gfR h x0 [6] 0).bind fun a1 => ((wrL h a1 x3 (0:Int64)).bind fun h2 => (k12 (h2, x0, (x3 + (1:Int32)))))))
def fSt_begin_12 (n : Nat) (h : MH) (x0 : Nat) (x3 : Int32) : Option MH := lp (fun n k s => bSt_begin_12 n k s.1 s.2.1 s.2.2) n (h, x0, x3)
set_option maxRecDepth 20000 in
set_option maxHeartbeats 4000000 in
theorem tSt_begin_12 {g : Gh} {h' : MH} (n : Nat) (h : MH) (x0 : Nat) (x3 : Int32) (hf : fSt_begin_12 n h x0 x3 = some h') : V g ySt_begin cSt_begin 4 none rmSt_begin (ZQ g rmSt_begin h' none) 0 0 h 12 [some (.ref x0), none, none, some (.int x3)] [] := by
  unfold fSt_begin_12 at hf
  refine lp_ind (P := fun s => V g ySt_begin cSt_begin 4 none rmSt_begin (ZQ g rmSt_begin h' none) 0 0 s.1 12 [some (.ref s.2.1), none, none, some (.int s.2.2)] []) (fun n k12 hk12 s hf => ?_) n (h, x0, x3) hf
  obtain ⟨h, x0, x3⟩ := s
  replace hk12 : ∀ (h : MH) (x0 : Nat) (x3 : Int32), k12 (h, x0, x3) = some h' → V g ySt_begin cSt_begin 4 none rmSt_begin (ZQ g rmSt_begin h' none) 0 0 h 12 [some (.ref x0), none, none, some (.int x3)] [] := fun h x0 x3 => hk12 (h, x0, x3)
  replace hf : bSt_begin_12 n k12 h x0 x3 = some h' := hf
  change V g ySt_begin cSt_begin 4 none rmSt_begin (ZQ g rmSt_begin h' none) 0 0 h 12 [some (.ref x0), none, none, some (.int x3)] []
  unfold bSt_begin_12 at hf
  refine v_iload_n (i := 3) (pc := 12) dSt_begin_12 rfl rfl ?_
  refine v_bipush (pc := 13) (80:Int32) dSt_begin_13 rfl ?_
  refine v_icmp_ge (pc := 15) (tgt := 31) dSt_begin_15 rfl hf (fun hf => ?_) (fun hf => ?_)
  · exact v_vret (pc := 31) dSt_begin_31 (by decide) (by decide) hf
  refine v_aload_n (i := 0) (pc := 18) dSt_begin_18 rfl rfl ?_
  refine v_getR (pc := 19) fgSt_9 dSt_begin_19 hf (fun a1 hf => ?_)
  refine v_iload_n (i := 3) (pc := 22) dSt_begin_22 rfl rfl ?_
  refine v_lconst (pc := 23) (0:Int64) dSt_begin_23 rfl ?_
  refine v_last (pc := 24) dSt_begin_24 hf (fun h2 hf => ?_)
  refine v_iinc (pc := 25) (v := (x3 + (1:Int32))) (ls' := [some (.ref x0), none, none, some (.int (x3 + (1:Int32)))]) dSt_begin_25 rfl rfl (by decide) rfl ?_
  refine v_goto (pc := 28) (tgt := 12) dSt_begin_28 rfl ?_
  refine v_wk (ls' := [some (.ref x0), none, none, some (.int (x3 + (1:Int32)))]) ⟨rfl, rfl, trivial⟩ ?_
  exact hk12 h2 x0 (x3 + (1:Int32)) hf
def fSt_begin (n : Nat) (h : MH) (a_0 : Nat) (i_1 : Int32) (i_2 : Int32) : Option MH := ((pf h a_0 [6] 1 (.int i_1)).bind fun h1 => ((pf h1 a_0 [6] 2 (.int i_2)).bind fun h2 => (fSt_begin_12 n h2 a_0 (0:Int32))))
set_option maxRecDepth 20000 in
set_option maxHeartbeats 4000000 in
theorem sSt_begin {g : Gh} {h' : MH} {n : Nat} {h : MH} {a_0 : Nat} {i_1 : Int32} {i_2 : Int32} (hf : fSt_begin n h a_0 i_1 i_2 = some h') : Sp g ySt_begin cSt_begin 4 none rmSt_begin h [.ref a_0, .int i_1, .int i_2] h' none := by
  refine sp_of (by decide) (Nat.le_of_ble_eq_true rfl) ?_
  change V g ySt_begin cSt_begin 4 none rmSt_begin (ZQ g rmSt_begin h' none) 0 0 h 0 [some (.ref a_0), some (.int i_1), some (.int i_2), none] []
  unfold fSt_begin at hf
  refine v_aload_n (i := 0) (pc := 0) dSt_begin_0 rfl rfl ?_
  refine v_iload_n (i := 1) (pc := 1) dSt_begin_1 rfl rfl ?_
  refine v_put (pc := 2) fpSt_15 (fun _ => ⟨rfl, rfl⟩) dSt_begin_2 hf (fun h1 hf => ?_)
  refine v_aload_n (i := 0) (pc := 5) dSt_begin_5 rfl rfl ?_
  refine v_iload_n (i := 2) (pc := 6) dSt_begin_6 rfl rfl ?_
  refine v_put (pc := 7) fpSt_19 (fun _ => ⟨rfl, rfl⟩) dSt_begin_7 hf (fun h2 hf => ?_)
  refine v_iconst (pc := 10) (0:Int32) dSt_begin_10 rfl ?_
  refine v_istore_n (i := 3) (pc := 11) (ls' := [some (.ref a_0), some (.int i_1), some (.int i_2), some (.int (0:Int32))]) dSt_begin_11 rfl (by decide) rfl ?_
  refine v_wk (ls' := [some (.ref a_0), none, none, some (.int (0:Int32))]) ⟨rfl, rfl, trivial⟩ ?_
  exact tSt_begin_12 n h2 a_0 (0:Int32) hf
abbrev rmX_well : Room := { frames := 0, cells := 0, slots := 0, locals := 0 }
def fX_well (h : MH) (a_0 : Nat) (i_1 : Int32) : Option (MH × Int32) := ((pf h a_0 [11] 8 (.int (0:Int32))).bind fun h1 => (some (h1, i_1)))
set_option maxRecDepth 20000 in
set_option maxHeartbeats 4000000 in
theorem sX_well {g : Gh} {h' : MH} {r' : Int32} {h : MH} {a_0 : Nat} {i_1 : Int32} (hf : fX_well h a_0 i_1 = some (h', r')) : Sp g yX_well cX_well 2 (some .int) rmX_well h [.ref a_0, .int i_1] h' (some (.int r')) := by
  refine sp_of (by decide) (Nat.le_of_ble_eq_true rfl) ?_
  change V g yX_well cX_well 2 (some .int) rmX_well (ZQ g rmX_well h' (some (.int r'))) 0 0 h 0 [some (.ref a_0), some (.int i_1)] []
  unfold fX_well at hf
  refine v_aload_n (i := 0) (pc := 0) dX_well_0 rfl rfl ?_
  refine v_iconst (pc := 1) (0:Int32) dX_well_1 rfl ?_
  refine v_put (pc := 2) fpX_93 (fun _ => ⟨rfl, rfl⟩) dX_well_2 hf (fun h1 hf => ?_)
  refine v_iload_n (i := 1) (pc := 5) dX_well_5 rfl rfl ?_
  exact v_iret (pc := 6) dX_well_6 (by decide) (by decide) hf
abbrev rmX_sheet : Room := { frames := 1, cells := 0, slots := 0, locals := 23 }
def fX_sheet (n : Nat) (h : MH) (a_0 : Nat) (i_1 : Int32) (i_2 : Int32) (i_3 : Int32) : Option (MH × Int32) := (bnd2 (fX_noSheet n h i_1) fun h1 i2 => (if i2 = (0:Int32) then (if i_2 < (0:Int32) then (some (h1, (-1000001:Int32))) else (if (2:Int32) < i_2 then (some (h1, (-1000001:Int32))) else (if i_3 ≤ (80:Int32) then (if (0:Int32) ≤ i_3 then ((gfR h1 a_0 [11] 5).bind fun a3 => (rdRn h1 a3 3 i_1 (none : Option (MH × Int32)) fun a4 => ((chk h1 a4 6).bind fun _ => ((fSt_begin n h1 a4 i_2 i_3).bind fun h5 => ((chk h5 a_0 11).bind fun _ => (bnd2 (fX_well h5 a_0 i_3) fun h6 i7 => (some (h6, i7)))))))) else ((chk h1 a_0 11).bind fun _ => (bnd2 (fX_found h1 a_0 (4:Int32)) fun h12 i13 => (some (h12, i13))))) else (some (h1, (-1000001:Int32)))))) else (some (h1, (-1000001:Int32)))))
set_option maxRecDepth 20000 in
set_option maxHeartbeats 4000000 in
theorem sX_sheet {g : Gh} {h' : MH} {r' : Int32} {n : Nat} {h : MH} {a_0 : Nat} {i_1 : Int32} {i_2 : Int32} {i_3 : Int32} (hf : fX_sheet n h a_0 i_1 i_2 i_3 = some (h', r')) : Sp g yX_sheet cX_sheet 4 (some .int) rmX_sheet h [.ref a_0, .int i_1, .int i_2, .int i_3] h' (some (.int r')) := by
  refine sp_of (by decide) (Nat.le_of_ble_eq_true rfl) ?_
  change V g yX_sheet cX_sheet 4 (some .int) rmX_sheet (ZQ g rmX_sheet h' (some (.int r'))) 0 0 h 0 [some (.ref a_0), some (.int i_1), some (.int i_2), some (.int i_3)] []
  unfold fX_sheet at hf
  refine v_iload_n (i := 1) (pc := 0) dX_sheet_0 rfl rfl ?_
  obtain ⟨h1, i2, e16, hf⟩ := bndp hf
  refine v_S1 (pc := 1) (As := [.int i_1]) (rest := []) lsX_67 (sX_noSheet e16) ⟨Nat.le_of_ble_eq_true rfl, Nat.le_of_ble_eq_true rfl, Nat.le_of_ble_eq_true rfl, Nat.le_of_ble_eq_true rfl⟩ dX_sheet_1 rfl rfl (Nat.le_of_ble_eq_true rfl) ?_
  refine v_if_ne (pc := 4) (tgt := 22) dX_sheet_4 rfl hf (fun hf => ?_) (fun hf => ?_)
  rotate_left
  · refine v_ldc (pc := 22) dX_sheet_22 kiX_71 ?_
    exact v_iret (pc := 24) dX_sheet_24 (by decide) (by decide) hf
  refine v_iload_n (i := 2) (pc := 7) dX_sheet_7 rfl rfl ?_
  refine v_if_lt (pc := 8) (tgt := 22) dX_sheet_8 rfl hf (fun hf => ?_) (fun hf => ?_)
  · refine v_ldc (pc := 22) dX_sheet_22 kiX_71 ?_
    exact v_iret (pc := 24) dX_sheet_24 (by decide) (by decide) hf
  refine v_iload_n (i := 2) (pc := 11) dX_sheet_11 rfl rfl ?_
  refine v_iconst (pc := 12) (2:Int32) dX_sheet_12 rfl ?_
  refine v_icmp_gt (pc := 13) (tgt := 22) dX_sheet_13 rfl hf (fun hf => ?_) (fun hf => ?_)
  · refine v_ldc (pc := 22) dX_sheet_22 kiX_71 ?_
    exact v_iret (pc := 24) dX_sheet_24 (by decide) (by decide) hf
  refine v_iload_n (i := 3) (pc := 16) dX_sheet_16 rfl rfl ?_
  refine v_bipush (pc := 17) (80:Int32) dX_sheet_17 rfl ?_
  refine v_icmp_le (pc := 19) (tgt := 25) dX_sheet_19 rfl hf (fun hf => ?_) (fun hf => ?_)
  rotate_left
  · refine v_ldc (pc := 22) dX_sheet_22 kiX_71 ?_
    exact v_iret (pc := 24) dX_sheet_24 (by decide) (by decide) hf
  refine v_iload_n (i := 3) (pc := 25) dX_sheet_25 rfl rfl ?_
  refine v_if_ge (pc := 26) (tgt := 35) dX_sheet_26 rfl hf (fun hf => ?_) (fun hf => ?_)
  rotate_left
  · refine v_aload_n (i := 0) (pc := 29) dX_sheet_29 rfl rfl ?_
    refine v_iconst (pc := 30) (4:Int32) dX_sheet_30 rfl ?_
    obtain ⟨u15, cu15, hf⟩ := bnd hf
    obtain ⟨h12, i13, e14, hf⟩ := bndp hf
    refine v_M1 (pc := 31) (As := [.int (4:Int32)]) (rest := []) lmX_72 cu15 (sX_found e14) ⟨Nat.le_of_ble_eq_true rfl, Nat.le_of_ble_eq_true rfl, Nat.le_of_ble_eq_true rfl, Nat.le_of_ble_eq_true rfl⟩ dX_sheet_31 rfl rfl (Nat.le_of_ble_eq_true rfl) ?_
    exact v_iret (pc := 34) dX_sheet_34 (by decide) (by decide) hf
  refine v_aload_n (i := 0) (pc := 35) dX_sheet_35 rfl rfl ?_
  refine v_getR (pc := 36) fgX_52 dX_sheet_36 hf (fun a3 hf => ?_)
  refine v_iload_n (i := 1) (pc := 39) dX_sheet_39 rfl rfl ?_
  refine v_aald (pc := 40) (Or.inr (Or.inl rfl)) dX_sheet_40 hf (fun hf => ?_) (fun a4 hf => ?_)
  · refine v_iload_n (i := 2) (pc := 41) dX_sheet_41 rfl rfl ?_
    refine v_iload_n (i := 3) (pc := 42) dX_sheet_42 rfl rfl ?_
    cases hf
  refine v_iload_n (i := 2) (pc := 41) dX_sheet_41 rfl rfl ?_
  refine v_iload_n (i := 3) (pc := 42) dX_sheet_42 rfl rfl ?_
  obtain ⟨u11, cu11, hf⟩ := bnd hf
  obtain ⟨h5, e10, hf⟩ := bnd hf
  refine v_M0 (pc := 43) (As := [.int i_2, .int i_3]) (rest := []) lmX_76 cu11 (sSt_begin e10) ⟨Nat.le_of_ble_eq_true rfl, Nat.le_of_ble_eq_true rfl, Nat.le_of_ble_eq_true rfl, Nat.le_of_ble_eq_true rfl⟩ dX_sheet_43 rfl rfl (Nat.le_of_ble_eq_true rfl) ?_
  refine v_aload_n (i := 0) (pc := 46) dX_sheet_46 rfl rfl ?_
  refine v_iload_n (i := 3) (pc := 47) dX_sheet_47 rfl rfl ?_
  obtain ⟨u9, cu9, hf⟩ := bnd hf
  obtain ⟨h6, i7, e8, hf⟩ := bndp hf
  refine v_M1 (pc := 48) (As := [.int i_3]) (rest := []) lmX_80 cu9 (sX_well e8) ⟨Nat.le_of_ble_eq_true rfl, Nat.le_of_ble_eq_true rfl, Nat.le_of_ble_eq_true rfl, Nat.le_of_ble_eq_true rfl⟩ dX_sheet_48 rfl rfl (Nat.le_of_ble_eq_true rfl) ?_
  exact v_iret (pc := 51) dX_sheet_51 (by decide) (by decide) hf
abbrev rmSt_missing : Room := { frames := 0, cells := 0, slots := 0, locals := 0 }
def fSt_missing (h : MH) (a_0 : Nat) : Option (MH × Int32) := ((gfI h a_0 [6] 1).bind fun i1 => (if i1 = (-1:Int32) then (retZ h (1:Int32)) else (retZ h (0:Int32))))
set_option maxRecDepth 20000 in
set_option maxHeartbeats 4000000 in
theorem sSt_missing {g : Gh} {h' : MH} {r' : Int32} {h : MH} {a_0 : Nat} (hf : fSt_missing h a_0 = some (h', r')) : Sp g ySt_missing cSt_missing 1 (some .boolean) rmSt_missing h [.ref a_0] h' (some (.int r')) := by
  refine sp_of (by decide) (Nat.le_of_ble_eq_true rfl) ?_
  change V g ySt_missing cSt_missing 1 (some .boolean) rmSt_missing (ZQ g rmSt_missing h' (some (.int r'))) 0 0 h 0 [some (.ref a_0)] []
  unfold fSt_missing at hf
  refine v_aload_n (i := 0) (pc := 0) dSt_missing_0 rfl rfl ?_
  refine v_getI (pc := 1) fgSt_15 dSt_missing_1 hf (fun i1 hf => ?_)
  refine v_iconst (pc := 4) (-1:Int32) dSt_missing_4 rfl ?_
  refine v_icmp_ne (pc := 5) (tgt := 12) dSt_missing_5 rfl hf (fun hf => ?_) (fun hf => ?_)
  rotate_left
  · refine v_iconst (pc := 12) (0:Int32) dSt_missing_12 rfl ?_
    exact v_zret (pc := 13) dSt_missing_13 (by decide) (by decide) hf
  refine v_iconst (pc := 8) (1:Int32) dSt_missing_8 rfl ?_
  refine v_goto (pc := 9) (tgt := 13) dSt_missing_9 rfl ?_
  exact v_zret (pc := 13) dSt_missing_13 (by decide) (by decide) hf
abbrev rmSt_holds : Room := { frames := 0, cells := 0, slots := 0, locals := 0 }
def fSt_holds (h : MH) (a_0 : Nat) (i_1 : Int32) (i_2 : Int32) : Option (MH × Int32) := (if i_1 < (0:Int32) then (retZ h (0:Int32)) else (if i_2 < (0:Int32) then (retZ h (0:Int32)) else ((gfI h a_0 [6] 2).bind fun i1 => (if i1 < i_1 then (retZ h (0:Int32)) else ((gfI h a_0 [6] 2).bind fun i2 => (if (i2 - i_1) < i_2 then (retZ h (0:Int32)) else (retZ h (1:Int32))))))))
set_option maxRecDepth 20000 in
set_option maxHeartbeats 4000000 in
theorem sSt_holds {g : Gh} {h' : MH} {r' : Int32} {h : MH} {a_0 : Nat} {i_1 : Int32} {i_2 : Int32} (hf : fSt_holds h a_0 i_1 i_2 = some (h', r')) : Sp g ySt_holds cSt_holds 3 (some .boolean) rmSt_holds h [.ref a_0, .int i_1, .int i_2] h' (some (.int r')) := by
  refine sp_of (by decide) (Nat.le_of_ble_eq_true rfl) ?_
  change V g ySt_holds cSt_holds 3 (some .boolean) rmSt_holds (ZQ g rmSt_holds h' (some (.int r'))) 0 0 h 0 [some (.ref a_0), some (.int i_1), some (.int i_2)] []
  unfold fSt_holds at hf
  refine v_iload_n (i := 1) (pc := 0) dSt_holds_0 rfl rfl ?_
  refine v_if_lt (pc := 1) (tgt := 30) dSt_holds_1 rfl hf (fun hf => ?_) (fun hf => ?_)
  · refine v_iconst (pc := 30) (0:Int32) dSt_holds_30 rfl ?_
    exact v_zret (pc := 31) dSt_holds_31 (by decide) (by decide) hf
  refine v_iload_n (i := 2) (pc := 4) dSt_holds_4 rfl rfl ?_
  refine v_if_lt (pc := 5) (tgt := 30) dSt_holds_5 rfl hf (fun hf => ?_) (fun hf => ?_)
  · refine v_iconst (pc := 30) (0:Int32) dSt_holds_30 rfl ?_
    exact v_zret (pc := 31) dSt_holds_31 (by decide) (by decide) hf
  refine v_iload_n (i := 1) (pc := 8) dSt_holds_8 rfl rfl ?_
  refine v_aload_n (i := 0) (pc := 9) dSt_holds_9 rfl rfl ?_
  refine v_getI (pc := 10) fgSt_19 dSt_holds_10 hf (fun i1 hf => ?_)
  refine v_icmp_gt (pc := 13) (tgt := 30) dSt_holds_13 rfl hf (fun hf => ?_) (fun hf => ?_)
  · refine v_iconst (pc := 30) (0:Int32) dSt_holds_30 rfl ?_
    exact v_zret (pc := 31) dSt_holds_31 (by decide) (by decide) hf
  refine v_iload_n (i := 2) (pc := 16) dSt_holds_16 rfl rfl ?_
  refine v_aload_n (i := 0) (pc := 17) dSt_holds_17 rfl rfl ?_
  refine v_getI (pc := 18) fgSt_19 dSt_holds_18 hf (fun i2 hf => ?_)
  refine v_iload_n (i := 1) (pc := 21) dSt_holds_21 rfl rfl ?_
  refine v_isub (pc := 22) dSt_holds_22 ?_
  refine v_icmp_gt (pc := 23) (tgt := 30) dSt_holds_23 rfl hf (fun hf => ?_) (fun hf => ?_)
  · refine v_iconst (pc := 30) (0:Int32) dSt_holds_30 rfl ?_
    exact v_zret (pc := 31) dSt_holds_31 (by decide) (by decide) hf
  refine v_iconst (pc := 26) (1:Int32) dSt_holds_26 rfl ?_
  refine v_goto (pc := 27) (tgt := 31) dSt_holds_27 rfl ?_
  exact v_zret (pc := 31) dSt_holds_31 (by decide) (by decide) hf
abbrev rmSt_put : Room := { frames := 0, cells := 0, slots := 0, locals := 0 }
def fSt_put_34 (n : Nat) (h : MH) (s0 : Int64) (s1 : Int32) (s2 : Nat) (x0 : Nat) (x1 : Int32) : Option (MH × Int64) := ((wrL h s2 s1 s0).bind fun h1 => ((gfR h1 x0 [6] 0).bind fun a2 => ((rdL h1 a2 x1).bind fun j3 => (some (h1, j3)))))
set_option maxRecDepth 20000 in
set_option maxHeartbeats 4000000 in
theorem tSt_put_34 {g : Gh} {h' : MH} {r' : Int64} (n : Nat) (h : MH) (s0 : Int64) (s1 : Int32) (s2 : Nat) (x0 : Nat) (x1 : Int32) (hf : fSt_put_34 n h s0 s1 s2 x0 x1 = some (h', r')) : V g ySt_put cSt_put 4 (some .long) rmSt_put (ZQ g rmSt_put h' (some (.long r'))) 0 0 h 34 [some (.ref x0), some (.int x1), none, none] [.long s0, .int s1, .ref s2] := by
  unfold fSt_put_34 at hf
  refine v_last (pc := 34) dSt_put_34 hf (fun h1 hf => ?_)
  refine v_aload_n (i := 0) (pc := 35) dSt_put_35 rfl rfl ?_
  refine v_getR (pc := 36) fgSt_9 dSt_put_36 hf (fun a2 hf => ?_)
  refine v_iload_n (i := 1) (pc := 39) dSt_put_39 rfl rfl ?_
  refine v_lald (pc := 40) dSt_put_40 hf (fun j3 hf => ?_)
  exact v_lret (pc := 41) dSt_put_41 (by decide) (by decide) hf
def fSt_put (n : Nat) (h : MH) (a_0 : Nat) (i_1 : Int32) (j_2 : Int64) : Option (MH × Int64) := ((gfR h a_0 [6] 0).bind fun a1 => ((gfI h a_0 [6] 1).bind fun i2 => (if i2 = (0:Int32) then (fSt_put_34 n h j_2.toInt32.toInt8.toInt32.toInt64 i_1 a1 a_0 i_1) else ((gfI h a_0 [6] 1).bind fun i3 => (if i3 = (1:Int32) then (fSt_put_34 n h j_2.toInt32.toInt64 i_1 a1 a_0 i_1) else (fSt_put_34 n h j_2 i_1 a1 a_0 i_1))))))
set_option maxRecDepth 20000 in
set_option maxHeartbeats 4000000 in
theorem sSt_put {g : Gh} {h' : MH} {r' : Int64} {n : Nat} {h : MH} {a_0 : Nat} {i_1 : Int32} {j_2 : Int64} (hf : fSt_put n h a_0 i_1 j_2 = some (h', r')) : Sp g ySt_put cSt_put 4 (some .long) rmSt_put h [.ref a_0, .int i_1, .long j_2] h' (some (.long r')) := by
  refine sp_of (by decide) (Nat.le_of_ble_eq_true rfl) ?_
  change V g ySt_put cSt_put 4 (some .long) rmSt_put (ZQ g rmSt_put h' (some (.long r'))) 0 0 h 0 [some (.ref a_0), some (.int i_1), some (.long j_2), none] []
  unfold fSt_put at hf
  refine v_aload_n (i := 0) (pc := 0) dSt_put_0 rfl rfl ?_
  refine v_getR (pc := 1) fgSt_9 dSt_put_1 hf (fun a1 hf => ?_)
  refine v_iload_n (i := 1) (pc := 4) dSt_put_4 rfl rfl ?_
  refine v_aload_n (i := 0) (pc := 5) dSt_put_5 rfl rfl ?_
  refine v_getI (pc := 6) fgSt_15 dSt_put_6 hf (fun i2 hf => ?_)
  refine v_if_ne (pc := 9) (tgt := 19) dSt_put_9 rfl hf (fun hf => ?_) (fun hf => ?_)
  · refine v_lload_n (i := 2) (pc := 12) dSt_put_12 rfl rfl ?_
    refine v_l2i (pc := 13) dSt_put_13 ?_
    refine v_i2b (pc := 14) dSt_put_14 ?_
    refine v_i2l (pc := 15) dSt_put_15 ?_
    refine v_goto (pc := 16) (tgt := 34) dSt_put_16 rfl ?_
    refine v_wk (ls' := [some (.ref a_0), some (.int i_1), none, none]) ⟨rfl, rfl, trivial⟩ ?_
    exact tSt_put_34 n h j_2.toInt32.toInt8.toInt32.toInt64 i_1 a1 a_0 i_1 hf
  refine v_aload_n (i := 0) (pc := 19) dSt_put_19 rfl rfl ?_
  refine v_getI (pc := 20) fgSt_15 dSt_put_20 hf (fun i3 hf => ?_)
  refine v_iconst (pc := 23) (1:Int32) dSt_put_23 rfl ?_
  refine v_icmp_ne (pc := 24) (tgt := 33) dSt_put_24 rfl hf (fun hf => ?_) (fun hf => ?_)
  rotate_left
  · refine v_lload_n (i := 2) (pc := 33) dSt_put_33 rfl rfl ?_
    refine v_wk (ls' := [some (.ref a_0), some (.int i_1), none, none]) ⟨rfl, rfl, trivial⟩ ?_
    exact tSt_put_34 n h j_2 i_1 a1 a_0 i_1 hf
  refine v_lload_n (i := 2) (pc := 27) dSt_put_27 rfl rfl ?_
  refine v_l2i (pc := 28) dSt_put_28 ?_
  refine v_i2l (pc := 29) dSt_put_29 ?_
  refine v_goto (pc := 30) (tgt := 34) dSt_put_30 rfl ?_
  refine v_wk (ls' := [some (.ref a_0), some (.int i_1), none, none]) ⟨rfl, rfl, trivial⟩ ?_
  exact tSt_put_34 n h j_2.toInt32.toInt64 i_1 a1 a_0 i_1 hf
abbrev rmX_set : Room := { frames := 1, cells := 0, slots := 0, locals := 23 }
def fX_set (n : Nat) (h : MH) (a_0 : Nat) (i_1 : Int32) (i_2 : Int32) (j_3 : Int64) : Option (MH × Int64) := (bnd2 (fX_noSheet n h i_1) fun h1 i2 => (if i2 = (0:Int32) then ((gfR h1 a_0 [11] 5).bind fun a3 => (rdRn h1 a3 3 i_1 (none : Option (MH × Int64)) fun a4 => ((chk h1 a4 6).bind fun _ => (bnd2 (fSt_missing h1 a4) fun h5 i6 => (if i6 = (0:Int32) then ((chk h5 a4 6).bind fun _ => (bnd2 (fSt_holds h5 a4 i_2 (1:Int32)) fun h7 i8 => (if i8 = (0:Int32) then ((chk h7 a_0 11).bind fun _ => (bnd2 (fX_found h7 a_0 (2:Int32)) fun h14 i15 => (some (h14, i15.toInt64)))) else ((pf h7 a_0 [11] 8 (.int (0:Int32))).bind fun h9 => ((chk h9 a4 6).bind fun _ => (bnd2 (fSt_put n h9 a4 i_2 j_3) fun h10 j11 => (some (h10, j11)))))))) else ((chk h5 a_0 11).bind fun _ => (bnd2 (fX_found h5 a_0 (1:Int32)) fun h20 i21 => (some (h20, i21.toInt64))))))))) else (some (h1, (-1000001:Int64)))))
set_option maxRecDepth 20000 in
set_option maxHeartbeats 4000000 in
theorem sX_set {g : Gh} {h' : MH} {r' : Int64} {n : Nat} {h : MH} {a_0 : Nat} {i_1 : Int32} {i_2 : Int32} {j_3 : Int64} (hf : fX_set n h a_0 i_1 i_2 j_3 = some (h', r')) : Sp g yX_set cX_set 6 (some .long) rmX_set h [.ref a_0, .int i_1, .int i_2, .long j_3] h' (some (.long r')) := by
  refine sp_of (by decide) (Nat.le_of_ble_eq_true rfl) ?_
  change V g yX_set cX_set 6 (some .long) rmX_set (ZQ g rmX_set h' (some (.long r'))) 0 0 h 0 [some (.ref a_0), some (.int i_1), some (.int i_2), some (.long j_3), none, none] []
  unfold fX_set at hf
  refine v_iload_n (i := 1) (pc := 0) dX_set_0 rfl rfl ?_
  obtain ⟨h1, i2, e26, hf⟩ := bndp hf
  refine v_S1 (pc := 1) (As := [.int i_1]) (rest := []) lsX_67 (sX_noSheet e26) ⟨Nat.le_of_ble_eq_true rfl, Nat.le_of_ble_eq_true rfl, Nat.le_of_ble_eq_true rfl, Nat.le_of_ble_eq_true rfl⟩ dX_set_1 rfl rfl (Nat.le_of_ble_eq_true rfl) ?_
  refine v_if_eq (pc := 4) (tgt := 11) dX_set_4 rfl hf (fun hf => ?_) (fun hf => ?_)
  rotate_left
  · refine v_ldc2 (pc := 7) dX_set_7 klX_83 ?_
    exact v_lret (pc := 10) dX_set_10 (by decide) (by decide) hf
  refine v_aload_n (i := 0) (pc := 11) dX_set_11 rfl rfl ?_
  refine v_getR (pc := 12) fgX_52 dX_set_12 hf (fun a3 hf => ?_)
  refine v_iload_n (i := 1) (pc := 15) dX_set_15 rfl rfl ?_
  refine v_aald (pc := 16) (Or.inr (Or.inl rfl)) dX_set_16 hf (fun hf => ?_) (fun a4 hf => ?_)
  · refine v_astoreN (pc := 17) (ls' := [some (.ref a_0), some (.int i_1), some (.int i_2), some (.long j_3), none, some (.null)]) dX_set_17 (by decide) rfl ?_
    refine v_aloadN (pc := 19) dX_set_19 rfl ?_
    cases hf
  refine v_astore (pc := 17) (ls' := [some (.ref a_0), some (.int i_1), some (.int i_2), some (.long j_3), none, some (.ref a4)]) dX_set_17 (by decide) rfl ?_
  refine v_aload (pc := 19) dX_set_19 rfl ?_
  obtain ⟨u25, cu25, hf⟩ := bnd hf
  obtain ⟨h5, i6, e24, hf⟩ := bndp hf
  refine v_M1 (pc := 21) (As := []) (rest := []) lmX_85 cu25 (sSt_missing e24) ⟨Nat.le_of_ble_eq_true rfl, Nat.le_of_ble_eq_true rfl, Nat.le_of_ble_eq_true rfl, Nat.le_of_ble_eq_true rfl⟩ dX_set_21 rfl rfl (Nat.le_of_ble_eq_true rfl) ?_
  refine v_if_eq (pc := 24) (tgt := 34) dX_set_24 rfl hf (fun hf => ?_) (fun hf => ?_)
  rotate_left
  · refine v_aload_n (i := 0) (pc := 27) dX_set_27 rfl rfl ?_
    refine v_iconst (pc := 28) (1:Int32) dX_set_28 rfl ?_
    obtain ⟨u23, cu23, hf⟩ := bnd hf
    obtain ⟨h20, i21, e22, hf⟩ := bndp hf
    refine v_M1 (pc := 29) (As := [.int (1:Int32)]) (rest := []) lmX_72 cu23 (sX_found e22) ⟨Nat.le_of_ble_eq_true rfl, Nat.le_of_ble_eq_true rfl, Nat.le_of_ble_eq_true rfl, Nat.le_of_ble_eq_true rfl⟩ dX_set_29 rfl rfl (Nat.le_of_ble_eq_true rfl) ?_
    refine v_i2l (pc := 32) dX_set_32 ?_
    exact v_lret (pc := 33) dX_set_33 (by decide) (by decide) hf
  refine v_aload (pc := 34) dX_set_34 rfl ?_
  refine v_iload_n (i := 2) (pc := 36) dX_set_36 rfl rfl ?_
  refine v_iconst (pc := 37) (1:Int32) dX_set_37 rfl ?_
  obtain ⟨u19, cu19, hf⟩ := bnd hf
  obtain ⟨h7, i8, e18, hf⟩ := bndp hf
  refine v_M1 (pc := 38) (As := [.int i_2, .int (1:Int32)]) (rest := []) lmX_89 cu19 (sSt_holds e18) ⟨Nat.le_of_ble_eq_true rfl, Nat.le_of_ble_eq_true rfl, Nat.le_of_ble_eq_true rfl, Nat.le_of_ble_eq_true rfl⟩ dX_set_38 rfl rfl (Nat.le_of_ble_eq_true rfl) ?_
  refine v_if_ne (pc := 41) (tgt := 51) dX_set_41 rfl hf (fun hf => ?_) (fun hf => ?_)
  · refine v_aload_n (i := 0) (pc := 44) dX_set_44 rfl rfl ?_
    refine v_iconst (pc := 45) (2:Int32) dX_set_45 rfl ?_
    obtain ⟨u17, cu17, hf⟩ := bnd hf
    obtain ⟨h14, i15, e16, hf⟩ := bndp hf
    refine v_M1 (pc := 46) (As := [.int (2:Int32)]) (rest := []) lmX_72 cu17 (sX_found e16) ⟨Nat.le_of_ble_eq_true rfl, Nat.le_of_ble_eq_true rfl, Nat.le_of_ble_eq_true rfl, Nat.le_of_ble_eq_true rfl⟩ dX_set_46 rfl rfl (Nat.le_of_ble_eq_true rfl) ?_
    refine v_i2l (pc := 49) dX_set_49 ?_
    exact v_lret (pc := 50) dX_set_50 (by decide) (by decide) hf
  refine v_aload_n (i := 0) (pc := 51) dX_set_51 rfl rfl ?_
  refine v_iconst (pc := 52) (0:Int32) dX_set_52 rfl ?_
  refine v_put (pc := 53) fpX_93 (fun _ => ⟨rfl, rfl⟩) dX_set_53 hf (fun h9 hf => ?_)
  refine v_aload (pc := 56) dX_set_56 rfl ?_
  refine v_iload_n (i := 2) (pc := 58) dX_set_58 rfl rfl ?_
  refine v_lload_n (i := 3) (pc := 59) dX_set_59 rfl rfl ?_
  obtain ⟨u13, cu13, hf⟩ := bnd hf
  obtain ⟨h10, j11, e12, hf⟩ := bndp hf
  refine v_M1 (pc := 60) (As := [.int i_2, .long j_3]) (rest := []) lmX_97 cu13 (sSt_put e12) ⟨Nat.le_of_ble_eq_true rfl, Nat.le_of_ble_eq_true rfl, Nat.le_of_ble_eq_true rfl, Nat.le_of_ble_eq_true rfl⟩ dX_set_60 rfl rfl (Nat.le_of_ble_eq_true rfl) ?_
  exact v_lret (pc := 63) dX_set_63 (by decide) (by decide) hf
abbrev rmX_copy : Room := { frames := 1, cells := 0, slots := 0, locals := 26 }
def fX_copy_49 (n : Nat) (h : MH) (x0 : Nat) : Option (MH × Int32) := ((chk h x0 11).bind fun _ => (bnd2 (fX_found h x0 (1:Int32)) fun h1 i2 => (some (h1, i2))))
set_option maxRecDepth 20000 in
set_option maxHeartbeats 4000000 in
theorem tX_copy_49 {g : Gh} {h' : MH} {r' : Int32} (n : Nat) (h : MH) (x0 : Nat) (hf : fX_copy_49 n h x0 = some (h', r')) : V g yX_copy cX_copy 8 (some .int) rmX_copy (ZQ g rmX_copy h' (some (.int r'))) 0 0 h 49 [some (.ref x0), none, none, none, none, none, none, none] [] := by
  unfold fX_copy_49 at hf
  refine v_aload_n (i := 0) (pc := 49) dX_copy_49 rfl rfl ?_
  refine v_iconst (pc := 50) (1:Int32) dX_copy_50 rfl ?_
  obtain ⟨u4, cu4, hf⟩ := bnd hf
  obtain ⟨h1, i2, e3, hf⟩ := bndp hf
  refine v_M1 (pc := 51) (As := [.int (1:Int32)]) (rest := []) lmX_72 cu4 (sX_found e3) ⟨Nat.le_of_ble_eq_true rfl, Nat.le_of_ble_eq_true rfl, Nat.le_of_ble_eq_true rfl, Nat.le_of_ble_eq_true rfl⟩ dX_copy_51 rfl rfl (Nat.le_of_ble_eq_true rfl) ?_
  exact v_iret (pc := 54) dX_copy_54 (by decide) (by decide) hf
def fX_copy_97 (n : Nat) (h : MH) (x0 : Nat) : Option (MH × Int32) := ((chk h x0 11).bind fun _ => (bnd2 (fX_found h x0 (2:Int32)) fun h1 i2 => (some (h1, i2))))
set_option maxRecDepth 20000 in
set_option maxHeartbeats 4000000 in
theorem tX_copy_97 {g : Gh} {h' : MH} {r' : Int32} (n : Nat) (h : MH) (x0 : Nat) (hf : fX_copy_97 n h x0 = some (h', r')) : V g yX_copy cX_copy 8 (some .int) rmX_copy (ZQ g rmX_copy h' (some (.int r'))) 0 0 h 97 [some (.ref x0), none, none, none, none, none, none, none] [] := by
  unfold fX_copy_97 at hf
  refine v_aload_n (i := 0) (pc := 97) dX_copy_97 rfl rfl ?_
  refine v_iconst (pc := 98) (2:Int32) dX_copy_98 rfl ?_
  obtain ⟨u4, cu4, hf⟩ := bnd hf
  obtain ⟨h1, i2, e3, hf⟩ := bndp hf
  refine v_M1 (pc := 99) (As := [.int (2:Int32)]) (rest := []) lmX_72 cu4 (sX_found e3) ⟨Nat.le_of_ble_eq_true rfl, Nat.le_of_ble_eq_true rfl, Nat.le_of_ble_eq_true rfl, Nat.le_of_ble_eq_true rfl⟩ dX_copy_99 rfl rfl (Nat.le_of_ble_eq_true rfl) ?_
  exact v_iret (pc := 102) dX_copy_102 (by decide) (by decide) hf
def fX_copy (n : Nat) (h : MH) (a_0 : Nat) (i_1 : Int32) (i_2 : Int32) (i_3 : Int32) (i_4 : Int32) (i_5 : Int32) : Option (MH × Int32) := (bnd2 (fX_noSheet n h i_1) fun h1 i2 => (if i2 = (0:Int32) then (bnd2 (fX_noSheet n h1 i_3) fun h3 i4 => (if i4 = (0:Int32) then ((gfR h3 a_0 [11] 5).bind fun a5 => (rdRn h3 a5 3 i_1 ((gfR h3 a_0 [11] 5).bind fun a42 => (rdRn h3 a42 3 i_3 (none : Option (MH × Int32)) fun a43 => (none : Option (MH × Int32)))) fun a6 => ((gfR h3 a_0 [11] 5).bind fun a7 => (rdRn h3 a7 3 i_3 ((chk h3 a6 6).bind fun _ => (bnd2 (fSt_missing h3 a6) fun h38 i39 => (if i39 = (0:Int32) then (none : Option (MH × Int32)) else (fX_copy_49 n h38 a_0)))) fun a8 => ((chk h3 a6 6).bind fun _ => (bnd2 (fSt_missing h3 a6) fun h9 i10 => (if i10 = (0:Int32) then ((chk h9 a8 6).bind fun _ => (bnd2 (fSt_missing h9 a8) fun h11 i12 => (if i12 = (0:Int32) then ((gfI h11 a6 [6] 1).bind fun i13 => ((gfI h11 a8 [6] 1).bind fun i14 => (if i13 = i14 then ((chk h11 a6 6).bind fun _ => (bnd2 (fSt_holds h11 a6 i_2 i_5) fun h15 i16 => (if i16 = (0:Int32) then (fX_copy_97 n h15 a_0) else ((chk h15 a8 6).bind fun _ => (bnd2 (fSt_holds h15 a8 i_4 i_5) fun h17 i18 => (if i18 = (0:Int32) then (fX_copy_97 n h17 a_0) else ((gfR h17 a6 [6] 0).bind fun a19 => ((gfR h17 a8 [6] 0).bind fun a20 => ((acL h17 a19 i_2 a20 i_4 i_5).bind fun h21 => ((chk h21 a_0 11).bind fun _ => (bnd2 (fX_well h21 a_0 i_5) fun h22 i23 => (some (h22, i23))))))))))))) else ((chk h11 a_0 11).bind fun _ => (bnd2 (fX_found h11 a_0 (5:Int32)) fun h30 i31 => (some (h30, i31))))))) else (fX_copy_49 n h11 a_0)))) else (fX_copy_49 n h9 a_0)))))))) else (some (h3, (-1000001:Int32))))) else (some (h1, (-1000001:Int32)))))
set_option maxRecDepth 20000 in
set_option maxHeartbeats 4000000 in
theorem sX_copy {g : Gh} {h' : MH} {r' : Int32} {n : Nat} {h : MH} {a_0 : Nat} {i_1 : Int32} {i_2 : Int32} {i_3 : Int32} {i_4 : Int32} {i_5 : Int32} (hf : fX_copy n h a_0 i_1 i_2 i_3 i_4 i_5 = some (h', r')) : Sp g yX_copy cX_copy 8 (some .int) rmX_copy h [.ref a_0, .int i_1, .int i_2, .int i_3, .int i_4, .int i_5] h' (some (.int r')) := by
  refine sp_of (by decide) (Nat.le_of_ble_eq_true rfl) ?_
  change V g yX_copy cX_copy 8 (some .int) rmX_copy (ZQ g rmX_copy h' (some (.int r'))) 0 0 h 0 [some (.ref a_0), some (.int i_1), some (.int i_2), some (.int i_3), some (.int i_4), some (.int i_5), none, none] []
  unfold fX_copy at hf
  refine v_iload_n (i := 1) (pc := 0) dX_copy_0 rfl rfl ?_
  obtain ⟨h1, i2, e45, hf⟩ := bndp hf
  refine v_S1 (pc := 1) (As := [.int i_1]) (rest := []) lsX_67 (sX_noSheet e45) ⟨Nat.le_of_ble_eq_true rfl, Nat.le_of_ble_eq_true rfl, Nat.le_of_ble_eq_true rfl, Nat.le_of_ble_eq_true rfl⟩ dX_copy_1 rfl rfl (Nat.le_of_ble_eq_true rfl) ?_
  refine v_if_ne (pc := 4) (tgt := 14) dX_copy_4 rfl hf (fun hf => ?_) (fun hf => ?_)
  rotate_left
  · refine v_ldc (pc := 14) dX_copy_14 kiX_71 ?_
    exact v_iret (pc := 16) dX_copy_16 (by decide) (by decide) hf
  refine v_iload_n (i := 3) (pc := 7) dX_copy_7 rfl rfl ?_
  obtain ⟨h3, i4, e44, hf⟩ := bndp hf
  refine v_S1 (pc := 8) (As := [.int i_3]) (rest := []) lsX_67 (sX_noSheet e44) ⟨Nat.le_of_ble_eq_true rfl, Nat.le_of_ble_eq_true rfl, Nat.le_of_ble_eq_true rfl, Nat.le_of_ble_eq_true rfl⟩ dX_copy_8 rfl rfl (Nat.le_of_ble_eq_true rfl) ?_
  refine v_if_eq (pc := 11) (tgt := 17) dX_copy_11 rfl hf (fun hf => ?_) (fun hf => ?_)
  rotate_left
  · refine v_ldc (pc := 14) dX_copy_14 kiX_71 ?_
    exact v_iret (pc := 16) dX_copy_16 (by decide) (by decide) hf
  refine v_aload_n (i := 0) (pc := 17) dX_copy_17 rfl rfl ?_
  refine v_getR (pc := 18) fgX_52 dX_copy_18 hf (fun a5 hf => ?_)
  refine v_iload_n (i := 1) (pc := 21) dX_copy_21 rfl rfl ?_
  refine v_aald (pc := 22) (Or.inr (Or.inl rfl)) dX_copy_22 hf (fun hf => ?_) (fun a6 hf => ?_)
  · refine v_astoreN (pc := 23) (ls' := [some (.ref a_0), some (.int i_1), some (.int i_2), some (.int i_3), some (.int i_4), some (.int i_5), some (.null), none]) dX_copy_23 (by decide) rfl ?_
    refine v_aload_n (i := 0) (pc := 25) dX_copy_25 rfl rfl ?_
    refine v_getR (pc := 26) fgX_52 dX_copy_26 hf (fun a42 hf => ?_)
    refine v_iload_n (i := 3) (pc := 29) dX_copy_29 rfl rfl ?_
    refine v_aald (pc := 30) (Or.inr (Or.inl rfl)) dX_copy_30 hf (fun hf => ?_) (fun a43 hf => ?_)
    · refine v_astoreN (pc := 31) (ls' := [some (.ref a_0), some (.int i_1), some (.int i_2), some (.int i_3), some (.int i_4), some (.int i_5), some (.null), some (.null)]) dX_copy_31 (by decide) rfl ?_
      refine v_aloadN (pc := 33) dX_copy_33 rfl ?_
      cases hf
    refine v_astore (pc := 31) (ls' := [some (.ref a_0), some (.int i_1), some (.int i_2), some (.int i_3), some (.int i_4), some (.int i_5), some (.null), some (.ref a43)]) dX_copy_31 (by decide) rfl ?_
    refine v_aloadN (pc := 33) dX_copy_33 rfl ?_
    cases hf
  refine v_astore (pc := 23) (ls' := [some (.ref a_0), some (.int i_1), some (.int i_2), some (.int i_3), some (.int i_4), some (.int i_5), some (.ref a6), none]) dX_copy_23 (by decide) rfl ?_
  refine v_aload_n (i := 0) (pc := 25) dX_copy_25 rfl rfl ?_
  refine v_getR (pc := 26) fgX_52 dX_copy_26 hf (fun a7 hf => ?_)
  refine v_iload_n (i := 3) (pc := 29) dX_copy_29 rfl rfl ?_
  refine v_aald (pc := 30) (Or.inr (Or.inl rfl)) dX_copy_30 hf (fun hf => ?_) (fun a8 hf => ?_)
  · refine v_astoreN (pc := 31) (ls' := [some (.ref a_0), some (.int i_1), some (.int i_2), some (.int i_3), some (.int i_4), some (.int i_5), some (.ref a6), some (.null)]) dX_copy_31 (by decide) rfl ?_
    refine v_aload (pc := 33) dX_copy_33 rfl ?_
    obtain ⟨u41, cu41, hf⟩ := bnd hf
    obtain ⟨h38, i39, e40, hf⟩ := bndp hf
    refine v_M1 (pc := 35) (As := []) (rest := []) lmX_85 cu41 (sSt_missing e40) ⟨Nat.le_of_ble_eq_true rfl, Nat.le_of_ble_eq_true rfl, Nat.le_of_ble_eq_true rfl, Nat.le_of_ble_eq_true rfl⟩ dX_copy_35 rfl rfl (Nat.le_of_ble_eq_true rfl) ?_
    refine v_if_ne (pc := 38) (tgt := 49) dX_copy_38 rfl hf (fun hf => ?_) (fun hf => ?_)
    · refine v_aloadN (pc := 41) dX_copy_41 rfl ?_
      cases hf
    refine v_wk (ls' := [some (.ref a_0), none, none, none, none, none, none, none]) ⟨rfl, trivial⟩ ?_
    exact tX_copy_49 n h38 a_0 hf
  refine v_astore (pc := 31) (ls' := [some (.ref a_0), some (.int i_1), some (.int i_2), some (.int i_3), some (.int i_4), some (.int i_5), some (.ref a6), some (.ref a8)]) dX_copy_31 (by decide) rfl ?_
  refine v_aload (pc := 33) dX_copy_33 rfl ?_
  obtain ⟨u37, cu37, hf⟩ := bnd hf
  obtain ⟨h9, i10, e36, hf⟩ := bndp hf
  refine v_M1 (pc := 35) (As := []) (rest := []) lmX_85 cu37 (sSt_missing e36) ⟨Nat.le_of_ble_eq_true rfl, Nat.le_of_ble_eq_true rfl, Nat.le_of_ble_eq_true rfl, Nat.le_of_ble_eq_true rfl⟩ dX_copy_35 rfl rfl (Nat.le_of_ble_eq_true rfl) ?_
  refine v_if_ne (pc := 38) (tgt := 49) dX_copy_38 rfl hf (fun hf => ?_) (fun hf => ?_)
  rotate_left
  · refine v_wk (ls' := [some (.ref a_0), none, none, none, none, none, none, none]) ⟨rfl, trivial⟩ ?_
    exact tX_copy_49 n h9 a_0 hf
  refine v_aload (pc := 41) dX_copy_41 rfl ?_
  obtain ⟨u35, cu35, hf⟩ := bnd hf
  obtain ⟨h11, i12, e34, hf⟩ := bndp hf
  refine v_M1 (pc := 43) (As := []) (rest := []) lmX_85 cu35 (sSt_missing e34) ⟨Nat.le_of_ble_eq_true rfl, Nat.le_of_ble_eq_true rfl, Nat.le_of_ble_eq_true rfl, Nat.le_of_ble_eq_true rfl⟩ dX_copy_43 rfl rfl (Nat.le_of_ble_eq_true rfl) ?_
  refine v_if_eq (pc := 46) (tgt := 55) dX_copy_46 rfl hf (fun hf => ?_) (fun hf => ?_)
  rotate_left
  · refine v_wk (ls' := [some (.ref a_0), none, none, none, none, none, none, none]) ⟨rfl, trivial⟩ ?_
    exact tX_copy_49 n h11 a_0 hf
  refine v_aload (pc := 55) dX_copy_55 rfl ?_
  refine v_getI (pc := 57) fgX_101 dX_copy_57 hf (fun i13 hf => ?_)
  refine v_aload (pc := 60) dX_copy_60 rfl ?_
  refine v_getI (pc := 62) fgX_101 dX_copy_62 hf (fun i14 hf => ?_)
  refine v_icmp_eq (pc := 65) (tgt := 74) dX_copy_65 rfl hf (fun hf => ?_) (fun hf => ?_)
  rotate_left
  · refine v_aload_n (i := 0) (pc := 68) dX_copy_68 rfl rfl ?_
    refine v_iconst (pc := 69) (5:Int32) dX_copy_69 rfl ?_
    obtain ⟨u33, cu33, hf⟩ := bnd hf
    obtain ⟨h30, i31, e32, hf⟩ := bndp hf
    refine v_M1 (pc := 70) (As := [.int (5:Int32)]) (rest := []) lmX_72 cu33 (sX_found e32) ⟨Nat.le_of_ble_eq_true rfl, Nat.le_of_ble_eq_true rfl, Nat.le_of_ble_eq_true rfl, Nat.le_of_ble_eq_true rfl⟩ dX_copy_70 rfl rfl (Nat.le_of_ble_eq_true rfl) ?_
    exact v_iret (pc := 73) dX_copy_73 (by decide) (by decide) hf
  refine v_aload (pc := 74) dX_copy_74 rfl ?_
  refine v_iload_n (i := 2) (pc := 76) dX_copy_76 rfl rfl ?_
  refine v_iload (pc := 77) dX_copy_77 rfl ?_
  obtain ⟨u29, cu29, hf⟩ := bnd hf
  obtain ⟨h15, i16, e28, hf⟩ := bndp hf
  refine v_M1 (pc := 79) (As := [.int i_2, .int i_5]) (rest := []) lmX_89 cu29 (sSt_holds e28) ⟨Nat.le_of_ble_eq_true rfl, Nat.le_of_ble_eq_true rfl, Nat.le_of_ble_eq_true rfl, Nat.le_of_ble_eq_true rfl⟩ dX_copy_79 rfl rfl (Nat.le_of_ble_eq_true rfl) ?_
  refine v_if_eq (pc := 82) (tgt := 97) dX_copy_82 rfl hf (fun hf => ?_) (fun hf => ?_)
  · refine v_wk (ls' := [some (.ref a_0), none, none, none, none, none, none, none]) ⟨rfl, trivial⟩ ?_
    exact tX_copy_97 n h15 a_0 hf
  refine v_aload (pc := 85) dX_copy_85 rfl ?_
  refine v_iload (pc := 87) dX_copy_87 rfl ?_
  refine v_iload (pc := 89) dX_copy_89 rfl ?_
  obtain ⟨u27, cu27, hf⟩ := bnd hf
  obtain ⟨h17, i18, e26, hf⟩ := bndp hf
  refine v_M1 (pc := 91) (As := [.int i_4, .int i_5]) (rest := []) lmX_89 cu27 (sSt_holds e26) ⟨Nat.le_of_ble_eq_true rfl, Nat.le_of_ble_eq_true rfl, Nat.le_of_ble_eq_true rfl, Nat.le_of_ble_eq_true rfl⟩ dX_copy_91 rfl rfl (Nat.le_of_ble_eq_true rfl) ?_
  refine v_if_ne (pc := 94) (tgt := 103) dX_copy_94 rfl hf (fun hf => ?_) (fun hf => ?_)
  · refine v_wk (ls' := [some (.ref a_0), none, none, none, none, none, none, none]) ⟨rfl, trivial⟩ ?_
    exact tX_copy_97 n h17 a_0 hf
  refine v_aload (pc := 103) dX_copy_103 rfl ?_
  refine v_getR (pc := 105) fgX_104 dX_copy_105 hf (fun a19 hf => ?_)
  refine v_iload_n (i := 2) (pc := 108) dX_copy_108 rfl rfl ?_
  refine v_aload (pc := 109) dX_copy_109 rfl ?_
  refine v_getR (pc := 111) fgX_104 dX_copy_111 hf (fun a20 hf => ?_)
  refine v_iload (pc := 114) dX_copy_114 rfl ?_
  refine v_iload (pc := 116) dX_copy_116 rfl ?_
  refine v_acopy (pc := 118) mlX_107 acN acS acI (by decide) (Nat.le_of_ble_eq_true rfl) dX_copy_118 hf (fun h21 hf => ?_)
  refine v_aload_n (i := 0) (pc := 121) dX_copy_121 rfl rfl ?_
  refine v_iload (pc := 122) dX_copy_122 rfl ?_
  obtain ⟨u25, cu25, hf⟩ := bnd hf
  obtain ⟨h22, i23, e24, hf⟩ := bndp hf
  refine v_M1 (pc := 124) (As := [.int i_5]) (rest := []) lmX_80 cu25 (sX_well e24) ⟨Nat.le_of_ble_eq_true rfl, Nat.le_of_ble_eq_true rfl, Nat.le_of_ble_eq_true rfl, Nat.le_of_ble_eq_true rfl⟩ dX_copy_124 rfl rfl (Nat.le_of_ble_eq_true rfl) ?_
  exact v_iret (pc := 127) dX_copy_127 (by decide) (by decide) hf
abbrev rmX_drop : Room := { frames := 1, cells := 0, slots := 0, locals := 21 }
def fX_drop (n : Nat) (h : MH) (a_0 : Nat) (i_1 : Int32) : Option (MH × Int32) := (bnd2 (fX_noSheet n h i_1) fun h1 i2 => (if i2 = (0:Int32) then ((gfR h1 a_0 [11] 5).bind fun a3 => (rdRn h1 a3 3 i_1 (none : Option (MH × Int32)) fun a4 => ((chk h1 a4 6).bind fun _ => (bnd2 (fSt_missing h1 a4) fun h5 i6 => (if i6 = (0:Int32) then ((pf h5 a4 [6] 1 (.int (-1:Int32))).bind fun h7 => ((gfI h7 a4 [6] 2).bind fun i8 => ((chk h7 a_0 11).bind fun _ => (bnd2 (fX_well h7 a_0 i8) fun h9 i10 => (some (h9, i10)))))) else ((chk h5 a_0 11).bind fun _ => (bnd2 (fX_found h5 a_0 (1:Int32)) fun h13 i14 => (some (h13, i14))))))))) else (some (h1, (-1000001:Int32)))))
set_option maxRecDepth 20000 in
set_option maxHeartbeats 4000000 in
theorem sX_drop {g : Gh} {h' : MH} {r' : Int32} {n : Nat} {h : MH} {a_0 : Nat} {i_1 : Int32} (hf : fX_drop n h a_0 i_1 = some (h', r')) : Sp g yX_drop cX_drop 3 (some .int) rmX_drop h [.ref a_0, .int i_1] h' (some (.int r')) := by
  refine sp_of (by decide) (Nat.le_of_ble_eq_true rfl) ?_
  change V g yX_drop cX_drop 3 (some .int) rmX_drop (ZQ g rmX_drop h' (some (.int r'))) 0 0 h 0 [some (.ref a_0), some (.int i_1), none] []
  unfold fX_drop at hf
  refine v_iload_n (i := 1) (pc := 0) dX_drop_0 rfl rfl ?_
  obtain ⟨h1, i2, e19, hf⟩ := bndp hf
  refine v_S1 (pc := 1) (As := [.int i_1]) (rest := []) lsX_67 (sX_noSheet e19) ⟨Nat.le_of_ble_eq_true rfl, Nat.le_of_ble_eq_true rfl, Nat.le_of_ble_eq_true rfl, Nat.le_of_ble_eq_true rfl⟩ dX_drop_1 rfl rfl (Nat.le_of_ble_eq_true rfl) ?_
  refine v_if_eq (pc := 4) (tgt := 10) dX_drop_4 rfl hf (fun hf => ?_) (fun hf => ?_)
  rotate_left
  · refine v_ldc (pc := 7) dX_drop_7 kiX_71 ?_
    exact v_iret (pc := 9) dX_drop_9 (by decide) (by decide) hf
  refine v_aload_n (i := 0) (pc := 10) dX_drop_10 rfl rfl ?_
  refine v_getR (pc := 11) fgX_52 dX_drop_11 hf (fun a3 hf => ?_)
  refine v_iload_n (i := 1) (pc := 14) dX_drop_14 rfl rfl ?_
  refine v_aald (pc := 15) (Or.inr (Or.inl rfl)) dX_drop_15 hf (fun hf => ?_) (fun a4 hf => ?_)
  · refine v_astoreN_n (i := 2) (pc := 16) (ls' := [some (.ref a_0), some (.int i_1), some (.null)]) dX_drop_16 rfl (by decide) rfl ?_
    refine v_aloadN_n (i := 2) (pc := 17) dX_drop_17 rfl rfl ?_
    cases hf
  refine v_astore_n (i := 2) (pc := 16) (ls' := [some (.ref a_0), some (.int i_1), some (.ref a4)]) dX_drop_16 rfl (by decide) rfl ?_
  refine v_aload_n (i := 2) (pc := 17) dX_drop_17 rfl rfl ?_
  obtain ⟨u18, cu18, hf⟩ := bnd hf
  obtain ⟨h5, i6, e17, hf⟩ := bndp hf
  refine v_M1 (pc := 18) (As := []) (rest := []) lmX_85 cu18 (sSt_missing e17) ⟨Nat.le_of_ble_eq_true rfl, Nat.le_of_ble_eq_true rfl, Nat.le_of_ble_eq_true rfl, Nat.le_of_ble_eq_true rfl⟩ dX_drop_18 rfl rfl (Nat.le_of_ble_eq_true rfl) ?_
  refine v_if_eq (pc := 21) (tgt := 30) dX_drop_21 rfl hf (fun hf => ?_) (fun hf => ?_)
  rotate_left
  · refine v_aload_n (i := 0) (pc := 24) dX_drop_24 rfl rfl ?_
    refine v_iconst (pc := 25) (1:Int32) dX_drop_25 rfl ?_
    obtain ⟨u16, cu16, hf⟩ := bnd hf
    obtain ⟨h13, i14, e15, hf⟩ := bndp hf
    refine v_M1 (pc := 26) (As := [.int (1:Int32)]) (rest := []) lmX_72 cu16 (sX_found e15) ⟨Nat.le_of_ble_eq_true rfl, Nat.le_of_ble_eq_true rfl, Nat.le_of_ble_eq_true rfl, Nat.le_of_ble_eq_true rfl⟩ dX_drop_26 rfl rfl (Nat.le_of_ble_eq_true rfl) ?_
    exact v_iret (pc := 29) dX_drop_29 (by decide) (by decide) hf
  refine v_aload_n (i := 2) (pc := 30) dX_drop_30 rfl rfl ?_
  refine v_iconst (pc := 31) (-1:Int32) dX_drop_31 rfl ?_
  refine v_put (pc := 32) fpX_101 (fun _ => ⟨rfl, rfl⟩) dX_drop_32 hf (fun h7 hf => ?_)
  refine v_aload_n (i := 0) (pc := 35) dX_drop_35 rfl rfl ?_
  refine v_aload_n (i := 2) (pc := 36) dX_drop_36 rfl rfl ?_
  refine v_getI (pc := 37) fgX_113 dX_drop_37 hf (fun i8 hf => ?_)
  obtain ⟨u12, cu12, hf⟩ := bnd hf
  obtain ⟨h9, i10, e11, hf⟩ := bndp hf
  refine v_M1 (pc := 40) (As := [.int i8]) (rest := []) lmX_80 cu12 (sX_well e11) ⟨Nat.le_of_ble_eq_true rfl, Nat.le_of_ble_eq_true rfl, Nat.le_of_ble_eq_true rfl, Nat.le_of_ble_eq_true rfl⟩ dX_drop_40 rfl rfl (Nat.le_of_ble_eq_true rfl) ?_
  exact v_iret (pc := 43) dX_drop_43 (by decide) (by decide) hf
abbrev rmFo_howMany : Room := { frames := 0, cells := 0, slots := 0, locals := 0 }
def fFo_howMany_23 (k4 : (MH × Nat × Int32 × Int32 × Int32) → Option (MH × Int32)) (n : Nat) (h : MH) (x0 : Nat) (x1 : Int32) (x2 : Int32) (x3 : Int32) : Option (MH × Int32) := (k4 (h, x0, x1, x2, (x3 + (1:Int32))))
set_option maxRecDepth 20000 in
set_option maxHeartbeats 4000000 in
theorem tFo_howMany_23 {g : Gh} {h' : MH} {r' : Int32} {k4 : (MH × Nat × Int32 × Int32 × Int32) → Option (MH × Int32)} (hk4 : ∀ (h : MH) (x0 : Nat) (x1 : Int32) (x2 : Int32) (x3 : Int32), k4 (h, x0, x1, x2, x3) = some (h', r') → V g yFo_howMany cFo_howMany 4 (some .int) rmFo_howMany (ZQ g rmFo_howMany h' (some (.int r'))) 0 0 h 4 [some (.ref x0), some (.int x1), some (.int x2), some (.int x3)] []) (n : Nat) (h : MH) (x0 : Nat) (x1 : Int32) (x2 : Int32) (x3 : Int32) (hf : fFo_howMany_23 k4 n h x0 x1 x2 x3 = some (h', r')) : V g yFo_howMany cFo_howMany 4 (some .int) rmFo_howMany (ZQ g rmFo_howMany h' (some (.int r'))) 0 0 h 23 [some (.ref x0), some (.int x1), some (.int x2), some (.int x3)] [] := by
  unfold fFo_howMany_23 at hf
  refine v_iinc (pc := 23) (v := (x3 + (1:Int32))) (ls' := [some (.ref x0), some (.int x1), some (.int x2), some (.int (x3 + (1:Int32)))]) dFo_howMany_23 rfl rfl (by decide) rfl ?_
  refine v_goto (pc := 26) (tgt := 4) dFo_howMany_26 rfl ?_
  refine v_wk (ls' := [some (.ref x0), some (.int x1), some (.int x2), some (.int (x3 + (1:Int32)))]) ⟨rfl, rfl, rfl, rfl, trivial⟩ ?_
  exact hk4 h x0 x1 x2 (x3 + (1:Int32)) hf
def bFo_howMany_4 (n : Nat) (k4 : (MH × Nat × Int32 × Int32 × Int32) → Option (MH × Int32)) (h : MH) (x0 : Nat) (x1 : Int32) (x2 : Int32) (x3 : Int32) : Option (MH × Int32) := (if (37:Int32) ≤ x3 then (some (h, x2)) else ((gfR h x0 [0] 1).bind fun a1 => ((rdI h a1 x3).bind fun i2 => (if i2 = x1 then (fFo_howMany_23 k4 n h x0 x1 (x2 + (1:Int32)) x3) else (fFo_howMany_23 k4 n h x0 x1 x2 x3)))))
def fFo_howMany_4 (n : Nat) (h : MH) (x0 : Nat) (x1 : Int32) (x2 : Int32) (x3 : Int32) : Option (MH × Int32) := lp (fun n k s => bFo_howMany_4 n k s.1 s.2.1 s.2.2.1 s.2.2.2.1 s.2.2.2.2) n (h, x0, x1, x2, x3)
set_option maxRecDepth 20000 in
set_option maxHeartbeats 4000000 in
theorem tFo_howMany_4 {g : Gh} {h' : MH} {r' : Int32} (n : Nat) (h : MH) (x0 : Nat) (x1 : Int32) (x2 : Int32) (x3 : Int32) (hf : fFo_howMany_4 n h x0 x1 x2 x3 = some (h', r')) : V g yFo_howMany cFo_howMany 4 (some .int) rmFo_howMany (ZQ g rmFo_howMany h' (some (.int r'))) 0 0 h 4 [some (.ref x0), some (.int x1), some (.int x2), some (.int x3)] [] := by
  unfold fFo_howMany_4 at hf
  refine lp_ind (P := fun s => V g yFo_howMany cFo_howMany 4 (some .int) rmFo_howMany (ZQ g rmFo_howMany h' (some (.int r'))) 0 0 s.1 4 [some (.ref s.2.1), some (.int s.2.2.1), some (.int s.2.2.2.1), some (.int s.2.2.2.2)] []) (fun n k4 hk4 s hf => ?_) n (h, x0, x1, x2, x3) hf
  obtain ⟨h, x0, x1, x2, x3⟩ := s
  replace hk4 : ∀ (h : MH) (x0 : Nat) (x1 : Int32) (x2 : Int32) (x3 : Int32), k4 (h, x0, x1, x2, x3) = some (h', r') → V g yFo_howMany cFo_howMany 4 (some .int) rmFo_howMany (ZQ g rmFo_howMany h' (some (.int r'))) 0 0 h 4 [some (.ref x0), some (.int x1), some (.int x2), some (.int x3)] [] := fun h x0 x1 x2 x3 => hk4 (h, x0, x1, x2, x3)
  replace hf : bFo_howMany_4 n k4 h x0 x1 x2 x3 = some (h', r') := hf
  change V g yFo_howMany cFo_howMany 4 (some .int) rmFo_howMany (ZQ g rmFo_howMany h' (some (.int r'))) 0 0 h 4 [some (.ref x0), some (.int x1), some (.int x2), some (.int x3)] []
  unfold bFo_howMany_4 at hf
  refine v_iload_n (i := 3) (pc := 4) dFo_howMany_4 rfl rfl ?_
  refine v_bipush (pc := 5) (37:Int32) dFo_howMany_5 rfl ?_
  refine v_icmp_ge (pc := 7) (tgt := 29) dFo_howMany_7 rfl hf (fun hf => ?_) (fun hf => ?_)
  · refine v_iload_n (i := 2) (pc := 29) dFo_howMany_29 rfl rfl ?_
    exact v_iret (pc := 30) dFo_howMany_30 (by decide) (by decide) hf
  refine v_aload_n (i := 0) (pc := 10) dFo_howMany_10 rfl rfl ?_
  refine v_getR (pc := 11) fgFo_16 dFo_howMany_11 hf (fun a1 hf => ?_)
  refine v_iload_n (i := 3) (pc := 14) dFo_howMany_14 rfl rfl ?_
  refine v_iald (pc := 15) dFo_howMany_15 hf (fun i2 hf => ?_)
  refine v_iload_n (i := 1) (pc := 16) dFo_howMany_16 rfl rfl ?_
  refine v_icmp_ne (pc := 17) (tgt := 23) dFo_howMany_17 rfl hf (fun hf => ?_) (fun hf => ?_)
  rotate_left
  · refine v_wk (ls' := [some (.ref x0), some (.int x1), some (.int x2), some (.int x3)]) ⟨rfl, rfl, rfl, rfl, trivial⟩ ?_
    exact tFo_howMany_23 hk4 n h x0 x1 x2 x3 hf
  refine v_iinc (pc := 20) (v := (x2 + (1:Int32))) (ls' := [some (.ref x0), some (.int x1), some (.int (x2 + (1:Int32))), some (.int x3)]) dFo_howMany_20 rfl rfl (by decide) rfl ?_
  refine v_wk (ls' := [some (.ref x0), some (.int x1), some (.int (x2 + (1:Int32))), some (.int x3)]) ⟨rfl, rfl, rfl, rfl, trivial⟩ ?_
  exact tFo_howMany_23 hk4 n h x0 x1 (x2 + (1:Int32)) x3 hf
def fFo_howMany (n : Nat) (h : MH) (a_0 : Nat) (i_1 : Int32) : Option (MH × Int32) := (fFo_howMany_4 n h a_0 i_1 (0:Int32) (0:Int32))
set_option maxRecDepth 20000 in
set_option maxHeartbeats 4000000 in
theorem sFo_howMany {g : Gh} {h' : MH} {r' : Int32} {n : Nat} {h : MH} {a_0 : Nat} {i_1 : Int32} (hf : fFo_howMany n h a_0 i_1 = some (h', r')) : Sp g yFo_howMany cFo_howMany 4 (some .int) rmFo_howMany h [.ref a_0, .int i_1] h' (some (.int r')) := by
  refine sp_of (by decide) (Nat.le_of_ble_eq_true rfl) ?_
  change V g yFo_howMany cFo_howMany 4 (some .int) rmFo_howMany (ZQ g rmFo_howMany h' (some (.int r'))) 0 0 h 0 [some (.ref a_0), some (.int i_1), none, none] []
  unfold fFo_howMany at hf
  refine v_iconst (pc := 0) (0:Int32) dFo_howMany_0 rfl ?_
  refine v_istore_n (i := 2) (pc := 1) (ls' := [some (.ref a_0), some (.int i_1), some (.int (0:Int32)), none]) dFo_howMany_1 rfl (by decide) rfl ?_
  refine v_iconst (pc := 2) (0:Int32) dFo_howMany_2 rfl ?_
  refine v_istore_n (i := 3) (pc := 3) (ls' := [some (.ref a_0), some (.int i_1), some (.int (0:Int32)), some (.int (0:Int32))]) dFo_howMany_3 rfl (by decide) rfl ?_
  refine v_wk (ls' := [some (.ref a_0), some (.int i_1), some (.int (0:Int32)), some (.int (0:Int32))]) ⟨rfl, rfl, rfl, rfl, trivial⟩ ?_
  exact tFo_howMany_4 n h a_0 i_1 (0:Int32) (0:Int32) hf
abbrev rmX_trees : Room := { frames := 1, cells := 0, slots := 0, locals := 23 }
def fX_trees (n : Nat) (h : MH) (a_0 : Nat) (i_1 : Int32) : Option (MH × Int32) := (if i_1 < (1:Int32) then (some (h, (-1000001:Int32))) else (if i_1 ≤ (6:Int32) then ((gfR h a_0 [11] 1).bind fun a1 => ((chk h a1 0).bind fun _ => (bnd2 (fFo_howMany n h a1 i_1) fun h2 i3 => (some (h2, i3))))) else (some (h, (-1000001:Int32)))))
set_option maxRecDepth 20000 in
set_option maxHeartbeats 4000000 in
theorem sX_trees {g : Gh} {h' : MH} {r' : Int32} {n : Nat} {h : MH} {a_0 : Nat} {i_1 : Int32} (hf : fX_trees n h a_0 i_1 = some (h', r')) : Sp g yX_trees cX_trees 2 (some .int) rmX_trees h [.ref a_0, .int i_1] h' (some (.int r')) := by
  refine sp_of (by decide) (Nat.le_of_ble_eq_true rfl) ?_
  change V g yX_trees cX_trees 2 (some .int) rmX_trees (ZQ g rmX_trees h' (some (.int r'))) 0 0 h 0 [some (.ref a_0), some (.int i_1)] []
  unfold fX_trees at hf
  refine v_iload_n (i := 1) (pc := 0) dX_trees_0 rfl rfl ?_
  refine v_iconst (pc := 1) (1:Int32) dX_trees_1 rfl ?_
  refine v_icmp_lt (pc := 2) (tgt := 11) dX_trees_2 rfl hf (fun hf => ?_) (fun hf => ?_)
  · refine v_ldc (pc := 11) dX_trees_11 kiX_71 ?_
    exact v_iret (pc := 13) dX_trees_13 (by decide) (by decide) hf
  refine v_iload_n (i := 1) (pc := 5) dX_trees_5 rfl rfl ?_
  refine v_bipush (pc := 6) (6:Int32) dX_trees_6 rfl ?_
  refine v_icmp_le (pc := 8) (tgt := 14) dX_trees_8 rfl hf (fun hf => ?_) (fun hf => ?_)
  rotate_left
  · refine v_ldc (pc := 11) dX_trees_11 kiX_71 ?_
    exact v_iret (pc := 13) dX_trees_13 (by decide) (by decide) hf
  refine v_aload_n (i := 0) (pc := 14) dX_trees_14 rfl rfl ?_
  refine v_getR (pc := 15) fgX_21 dX_trees_15 hf (fun a1 hf => ?_)
  refine v_iload_n (i := 1) (pc := 18) dX_trees_18 rfl rfl ?_
  obtain ⟨u5, cu5, hf⟩ := bnd hf
  obtain ⟨h2, i3, e4, hf⟩ := bndp hf
  refine v_M1 (pc := 19) (As := [.int i_1]) (rest := []) lmX_116 cu5 (sFo_howMany e4) ⟨Nat.le_of_ble_eq_true rfl, Nat.le_of_ble_eq_true rfl, Nat.le_of_ble_eq_true rfl, Nat.le_of_ble_eq_true rfl⟩ dX_trees_19 rfl rfl (Nat.le_of_ble_eq_true rfl) ?_
  exact v_iret (pc := 22) dX_trees_22 (by decide) (by decide) hf
abbrev rmX_noTree : Room := { frames := 0, cells := 0, slots := 0, locals := 0 }
def fX_noTree_10 (n : Nat) (h : MH) : Option (MH × Int32) := (retZ h (1:Int32))
set_option maxRecDepth 20000 in
set_option maxHeartbeats 4000000 in
theorem tX_noTree_10 {g : Gh} {h' : MH} {r' : Int32} (n : Nat) (h : MH) (hf : fX_noTree_10 n h = some (h', r')) : V g yX_noTree cX_noTree 1 (some .boolean) rmX_noTree (ZQ g rmX_noTree h' (some (.int r'))) 0 0 h 10 [none] [] := by
  unfold fX_noTree_10 at hf
  refine v_iconst (pc := 10) (1:Int32) dX_noTree_10 rfl ?_
  refine v_goto (pc := 11) (tgt := 15) dX_noTree_11 rfl ?_
  exact v_zret (pc := 15) dX_noTree_15 (by decide) (by decide) hf
def fX_noTree (n : Nat) (h : MH) (i_0 : Int32) : Option (MH × Int32) := (if i_0 < (0:Int32) then (fX_noTree_10 n h) else (if i_0 < (37:Int32) then (retZ h (0:Int32)) else (fX_noTree_10 n h)))
set_option maxRecDepth 20000 in
set_option maxHeartbeats 4000000 in
theorem sX_noTree {g : Gh} {h' : MH} {r' : Int32} {n : Nat} {h : MH} {i_0 : Int32} (hf : fX_noTree n h i_0 = some (h', r')) : Sp g yX_noTree cX_noTree 1 (some .boolean) rmX_noTree h [.int i_0] h' (some (.int r')) := by
  refine sp_of (by decide) (Nat.le_of_ble_eq_true rfl) ?_
  change V g yX_noTree cX_noTree 1 (some .boolean) rmX_noTree (ZQ g rmX_noTree h' (some (.int r'))) 0 0 h 0 [some (.int i_0)] []
  unfold fX_noTree at hf
  refine v_iload_n (i := 0) (pc := 0) dX_noTree_0 rfl rfl ?_
  refine v_if_lt (pc := 1) (tgt := 10) dX_noTree_1 rfl hf (fun hf => ?_) (fun hf => ?_)
  · refine v_wk (ls' := [none]) trivial ?_
    exact tX_noTree_10 n h hf
  refine v_iload_n (i := 0) (pc := 4) dX_noTree_4 rfl rfl ?_
  refine v_bipush (pc := 5) (37:Int32) dX_noTree_5 rfl ?_
  refine v_icmp_lt (pc := 7) (tgt := 14) dX_noTree_7 rfl hf (fun hf => ?_) (fun hf => ?_)
  · refine v_iconst (pc := 14) (0:Int32) dX_noTree_14 rfl ?_
    exact v_zret (pc := 15) dX_noTree_15 (by decide) (by decide) hf
  refine v_wk (ls' := [none]) trivial ?_
  exact tX_noTree_10 n h hf
abbrev rmX_tree : Room := { frames := 1, cells := 0, slots := 0, locals := 20 }
def fX_tree (n : Nat) (h : MH) (a_0 : Nat) (i_1 : Int32) (i_2 : Int32) : Option (MH × Int32) := (bnd2 (fX_noTree n h i_1) fun h1 i2 => (if i2 = (0:Int32) then (if i_2 = (0:Int32) then ((gfR h1 a_0 [11] 1).bind fun a3 => ((gfR h1 a3 [0] 1).bind fun a4 => ((rdI h1 a4 i_1).bind fun i5 => (some (h1, i5))))) else (if i_2 = (1:Int32) then ((gfR h1 a_0 [11] 1).bind fun a6 => ((gfR h1 a6 [0] 2).bind fun a7 => ((rdI h1 a7 i_1).bind fun i8 => (some (h1, i8))))) else (if i_2 = (2:Int32) then ((gfR h1 a_0 [11] 1).bind fun a9 => ((gfR h1 a9 [0] 3).bind fun a10 => ((rdI h1 a10 i_1).bind fun i11 => (some (h1, i11))))) else (if i_2 = (3:Int32) then ((gfR h1 a_0 [11] 1).bind fun a12 => ((gfR h1 a12 [0] 4).bind fun a13 => ((rdI h1 a13 i_1).bind fun i14 => (some (h1, i14))))) else (some (h1, (-1000001:Int32))))))) else (some (h1, (-1000001:Int32)))))
set_option maxRecDepth 20000 in
set_option maxHeartbeats 4000000 in
theorem sX_tree {g : Gh} {h' : MH} {r' : Int32} {n : Nat} {h : MH} {a_0 : Nat} {i_1 : Int32} {i_2 : Int32} (hf : fX_tree n h a_0 i_1 i_2 = some (h', r')) : Sp g yX_tree cX_tree 3 (some .int) rmX_tree h [.ref a_0, .int i_1, .int i_2] h' (some (.int r')) := by
  refine sp_of (by decide) (Nat.le_of_ble_eq_true rfl) ?_
  change V g yX_tree cX_tree 3 (some .int) rmX_tree (ZQ g rmX_tree h' (some (.int r'))) 0 0 h 0 [some (.ref a_0), some (.int i_1), some (.int i_2)] []
  unfold fX_tree at hf
  refine v_iload_n (i := 1) (pc := 0) dX_tree_0 rfl rfl ?_
  obtain ⟨h1, i2, e19, hf⟩ := bndp hf
  refine v_S1 (pc := 1) (As := [.int i_1]) (rest := []) lsX_119 (sX_noTree e19) ⟨Nat.le_of_ble_eq_true rfl, Nat.le_of_ble_eq_true rfl, Nat.le_of_ble_eq_true rfl, Nat.le_of_ble_eq_true rfl⟩ dX_tree_1 rfl rfl (Nat.le_of_ble_eq_true rfl) ?_
  refine v_if_eq (pc := 4) (tgt := 10) dX_tree_4 rfl hf (fun hf => ?_) (fun hf => ?_)
  rotate_left
  · refine v_ldc (pc := 7) dX_tree_7 kiX_71 ?_
    exact v_iret (pc := 9) dX_tree_9 (by decide) (by decide) hf
  refine v_iload_n (i := 2) (pc := 10) dX_tree_10 rfl rfl ?_
  by_cases e15 : i_2 = (0:Int32)
  · replace hf := if_t hf e15
    refine v_tswI (pc := 11) (tgt := 40) (off := 29) dX_tree_11 (by rw [e15]; decide) (by rw [e15]; decide) (by rw [e15]; decide) rfl ?_
    refine v_aload_n (i := 0) (pc := 40) dX_tree_40 rfl rfl ?_
    refine v_getR (pc := 41) fgX_21 dX_tree_41 hf (fun a3 hf => ?_)
    refine v_getR (pc := 44) fgX_122 dX_tree_44 hf (fun a4 hf => ?_)
    refine v_iload_n (i := 1) (pc := 47) dX_tree_47 rfl rfl ?_
    refine v_iald (pc := 48) dX_tree_48 hf (fun i5 hf => ?_)
    exact v_iret (pc := 49) dX_tree_49 (by decide) (by decide) hf
  replace hf := if_f hf e15
  by_cases e16 : i_2 = (1:Int32)
  · replace hf := if_t hf e16
    refine v_tswI (pc := 11) (tgt := 50) (off := 39) dX_tree_11 (by rw [e16]; decide) (by rw [e16]; decide) (by rw [e16]; decide) rfl ?_
    refine v_aload_n (i := 0) (pc := 50) dX_tree_50 rfl rfl ?_
    refine v_getR (pc := 51) fgX_21 dX_tree_51 hf (fun a6 hf => ?_)
    refine v_getR (pc := 54) fgX_126 dX_tree_54 hf (fun a7 hf => ?_)
    refine v_iload_n (i := 1) (pc := 57) dX_tree_57 rfl rfl ?_
    refine v_iald (pc := 58) dX_tree_58 hf (fun i8 hf => ?_)
    exact v_iret (pc := 59) dX_tree_59 (by decide) (by decide) hf
  replace hf := if_f hf e16
  by_cases e17 : i_2 = (2:Int32)
  · replace hf := if_t hf e17
    refine v_tswI (pc := 11) (tgt := 60) (off := 49) dX_tree_11 (by rw [e17]; decide) (by rw [e17]; decide) (by rw [e17]; decide) rfl ?_
    refine v_aload_n (i := 0) (pc := 60) dX_tree_60 rfl rfl ?_
    refine v_getR (pc := 61) fgX_21 dX_tree_61 hf (fun a9 hf => ?_)
    refine v_getR (pc := 64) fgX_129 dX_tree_64 hf (fun a10 hf => ?_)
    refine v_iload_n (i := 1) (pc := 67) dX_tree_67 rfl rfl ?_
    refine v_iald (pc := 68) dX_tree_68 hf (fun i11 hf => ?_)
    exact v_iret (pc := 69) dX_tree_69 (by decide) (by decide) hf
  replace hf := if_f hf e17
  by_cases e18 : i_2 = (3:Int32)
  · replace hf := if_t hf e18
    refine v_tswI (pc := 11) (tgt := 70) (off := 59) dX_tree_11 (by rw [e18]; decide) (by rw [e18]; decide) (by rw [e18]; decide) rfl ?_
    refine v_aload_n (i := 0) (pc := 70) dX_tree_70 rfl rfl ?_
    refine v_getR (pc := 71) fgX_21 dX_tree_71 hf (fun a12 hf => ?_)
    refine v_getR (pc := 74) fgX_132 dX_tree_74 hf (fun a13 hf => ?_)
    refine v_iload_n (i := 1) (pc := 77) dX_tree_77 rfl rfl ?_
    refine v_iald (pc := 78) dX_tree_78 hf (fun i14 hf => ?_)
    exact v_iret (pc := 79) dX_tree_79 (by decide) (by decide) hf
  replace hf := if_f hf e18
  refine v_tswO (pc := 11) (tgt := 80) dX_tree_11 (by have := lv_neT e15 (a := 0) (by decide); have := lv_neT e16 (a := 1) (by decide); have := lv_neT e17 (a := 2) (by decide); have := lv_neT e18 (a := 3) (by decide); omega) rfl ?_
  refine v_ldc (pc := 80) dX_tree_80 kiX_71 ?_
  exact v_iret (pc := 82) dX_tree_82 (by decide) (by decide) hf
abbrev rmX_level : Room := { frames := 1, cells := 0, slots := 0, locals := 20 }
def fX_level (n : Nat) (h : MH) (a_0 : Nat) (i_1 : Int32) (i_2 : Int32) : Option (MH × Int32) := (bnd2 (fX_noTree n h i_1) fun h1 i2 => (if i2 = (0:Int32) then (if i_2 < (0:Int32) then (some (h1, (-1000000:Int32))) else ((gfR h1 a_0 [11] 1).bind fun a3 => ((gfR h1 a3 [0] 1).bind fun a4 => ((rdI h1 a4 i_1).bind fun i5 => (if i_2 < i5 then ((gfR h1 a_0 [11] 1).bind fun a6 => ((gfR h1 a6 [0] 0).bind fun a7 => (rdRn h1 a7 2 i_1 (none : Option (MH × Int32)) fun a8 => ((rdI h1 a8 i_2).bind fun i9 => (some (h1, i9)))))) else (some (h1, (-1000000:Int32)))))))) else (some (h1, (-1000001:Int32)))))
set_option maxRecDepth 20000 in
set_option maxHeartbeats 4000000 in
theorem sX_level {g : Gh} {h' : MH} {r' : Int32} {n : Nat} {h : MH} {a_0 : Nat} {i_1 : Int32} {i_2 : Int32} (hf : fX_level n h a_0 i_1 i_2 = some (h', r')) : Sp g yX_level cX_level 3 (some .int) rmX_level h [.ref a_0, .int i_1, .int i_2] h' (some (.int r')) := by
  refine sp_of (by decide) (Nat.le_of_ble_eq_true rfl) ?_
  change V g yX_level cX_level 3 (some .int) rmX_level (ZQ g rmX_level h' (some (.int r'))) 0 0 h 0 [some (.ref a_0), some (.int i_1), some (.int i_2)] []
  unfold fX_level at hf
  refine v_iload_n (i := 1) (pc := 0) dX_level_0 rfl rfl ?_
  obtain ⟨h1, i2, e10, hf⟩ := bndp hf
  refine v_S1 (pc := 1) (As := [.int i_1]) (rest := []) lsX_119 (sX_noTree e10) ⟨Nat.le_of_ble_eq_true rfl, Nat.le_of_ble_eq_true rfl, Nat.le_of_ble_eq_true rfl, Nat.le_of_ble_eq_true rfl⟩ dX_level_1 rfl rfl (Nat.le_of_ble_eq_true rfl) ?_
  refine v_if_eq (pc := 4) (tgt := 10) dX_level_4 rfl hf (fun hf => ?_) (fun hf => ?_)
  rotate_left
  · refine v_ldc (pc := 7) dX_level_7 kiX_71 ?_
    exact v_iret (pc := 9) dX_level_9 (by decide) (by decide) hf
  refine v_iload_n (i := 2) (pc := 10) dX_level_10 rfl rfl ?_
  refine v_if_lt (pc := 11) (tgt := 27) dX_level_11 rfl hf (fun hf => ?_) (fun hf => ?_)
  · refine v_ldc (pc := 27) dX_level_27 kiX_135 ?_
    exact v_iret (pc := 29) dX_level_29 (by decide) (by decide) hf
  refine v_iload_n (i := 2) (pc := 14) dX_level_14 rfl rfl ?_
  refine v_aload_n (i := 0) (pc := 15) dX_level_15 rfl rfl ?_
  refine v_getR (pc := 16) fgX_21 dX_level_16 hf (fun a3 hf => ?_)
  refine v_getR (pc := 19) fgX_122 dX_level_19 hf (fun a4 hf => ?_)
  refine v_iload_n (i := 1) (pc := 22) dX_level_22 rfl rfl ?_
  refine v_iald (pc := 23) dX_level_23 hf (fun i5 hf => ?_)
  refine v_icmp_lt (pc := 24) (tgt := 30) dX_level_24 rfl hf (fun hf => ?_) (fun hf => ?_)
  rotate_left
  · refine v_ldc (pc := 27) dX_level_27 kiX_135 ?_
    exact v_iret (pc := 29) dX_level_29 (by decide) (by decide) hf
  refine v_aload_n (i := 0) (pc := 30) dX_level_30 rfl rfl ?_
  refine v_getR (pc := 31) fgX_21 dX_level_31 hf (fun a6 hf => ?_)
  refine v_getR (pc := 34) fgX_136 dX_level_34 hf (fun a7 hf => ?_)
  refine v_iload_n (i := 1) (pc := 37) dX_level_37 rfl rfl ?_
  refine v_aald (pc := 38) (Or.inl rfl) dX_level_38 hf (fun hf => ?_) (fun a8 hf => ?_)
  · cases hf
  refine v_iload_n (i := 2) (pc := 39) dX_level_39 rfl rfl ?_
  refine v_iald (pc := 40) dX_level_40 hf (fun i9 hf => ?_)
  exact v_iret (pc := 41) dX_level_41 (by decide) (by decide) hf
abbrev rmX_hang : Room := { frames := 1, cells := 0, slots := 0, locals := 20 }
def fX_hang (n : Nat) (h : MH) (a_0 : Nat) (i_1 : Int32) (i_2 : Int32) : Option (MH × Int32) := (bnd2 (fX_noTree n h i_1) fun h1 i2 => (if i2 = (0:Int32) then (bnd2 (fX_noTree n h1 i_2) fun h3 i4 => (if i4 = (0:Int32) then ((gfR h3 a_0 [11] 1).bind fun a5 => ((gfR h3 a5 [0] 7).bind fun a6 => (rdRn h3 a6 2 i_1 (none : Option (MH × Int32)) fun a7 => ((rdI h3 a7 i_2).bind fun i8 => (some (h3, i8)))))) else (some (h3, (-1000001:Int32))))) else (some (h1, (-1000001:Int32)))))
set_option maxRecDepth 20000 in
set_option maxHeartbeats 4000000 in
theorem sX_hang {g : Gh} {h' : MH} {r' : Int32} {n : Nat} {h : MH} {a_0 : Nat} {i_1 : Int32} {i_2 : Int32} (hf : fX_hang n h a_0 i_1 i_2 = some (h', r')) : Sp g yX_hang cX_hang 3 (some .int) rmX_hang h [.ref a_0, .int i_1, .int i_2] h' (some (.int r')) := by
  refine sp_of (by decide) (Nat.le_of_ble_eq_true rfl) ?_
  change V g yX_hang cX_hang 3 (some .int) rmX_hang (ZQ g rmX_hang h' (some (.int r'))) 0 0 h 0 [some (.ref a_0), some (.int i_1), some (.int i_2)] []
  unfold fX_hang at hf
  refine v_iload_n (i := 1) (pc := 0) dX_hang_0 rfl rfl ?_
  obtain ⟨h1, i2, e10, hf⟩ := bndp hf
  refine v_S1 (pc := 1) (As := [.int i_1]) (rest := []) lsX_119 (sX_noTree e10) ⟨Nat.le_of_ble_eq_true rfl, Nat.le_of_ble_eq_true rfl, Nat.le_of_ble_eq_true rfl, Nat.le_of_ble_eq_true rfl⟩ dX_hang_1 rfl rfl (Nat.le_of_ble_eq_true rfl) ?_
  refine v_if_ne (pc := 4) (tgt := 14) dX_hang_4 rfl hf (fun hf => ?_) (fun hf => ?_)
  rotate_left
  · refine v_ldc (pc := 14) dX_hang_14 kiX_71 ?_
    exact v_iret (pc := 16) dX_hang_16 (by decide) (by decide) hf
  refine v_iload_n (i := 2) (pc := 7) dX_hang_7 rfl rfl ?_
  obtain ⟨h3, i4, e9, hf⟩ := bndp hf
  refine v_S1 (pc := 8) (As := [.int i_2]) (rest := []) lsX_119 (sX_noTree e9) ⟨Nat.le_of_ble_eq_true rfl, Nat.le_of_ble_eq_true rfl, Nat.le_of_ble_eq_true rfl, Nat.le_of_ble_eq_true rfl⟩ dX_hang_8 rfl rfl (Nat.le_of_ble_eq_true rfl) ?_
  refine v_if_eq (pc := 11) (tgt := 17) dX_hang_11 rfl hf (fun hf => ?_) (fun hf => ?_)
  rotate_left
  · refine v_ldc (pc := 14) dX_hang_14 kiX_71 ?_
    exact v_iret (pc := 16) dX_hang_16 (by decide) (by decide) hf
  refine v_aload_n (i := 0) (pc := 17) dX_hang_17 rfl rfl ?_
  refine v_getR (pc := 18) fgX_21 dX_hang_18 hf (fun a5 hf => ?_)
  refine v_getR (pc := 21) fgX_140 dX_hang_21 hf (fun a6 hf => ?_)
  refine v_iload_n (i := 1) (pc := 24) dX_hang_24 rfl rfl ?_
  refine v_aald (pc := 25) (Or.inl rfl) dX_hang_25 hf (fun hf => ?_) (fun a7 hf => ?_)
  · cases hf
  refine v_iload_n (i := 2) (pc := 26) dX_hang_26 rfl rfl ?_
  refine v_iald (pc := 27) dX_hang_27 hf (fun i8 hf => ?_)
  exact v_iret (pc := 28) dX_hang_28 (by decide) (by decide) hf
abbrev rmX_noPlace : Room := { frames := 0, cells := 0, slots := 0, locals := 0 }
def fX_noPlace_10 (n : Nat) (h : MH) : Option (MH × Int32) := (retZ h (1:Int32))
set_option maxRecDepth 20000 in
set_option maxHeartbeats 4000000 in
theorem tX_noPlace_10 {g : Gh} {h' : MH} {r' : Int32} (n : Nat) (h : MH) (hf : fX_noPlace_10 n h = some (h', r')) : V g yX_noPlace cX_noPlace 1 (some .boolean) rmX_noPlace (ZQ g rmX_noPlace h' (some (.int r'))) 0 0 h 10 [none] [] := by
  unfold fX_noPlace_10 at hf
  refine v_iconst (pc := 10) (1:Int32) dX_noPlace_10 rfl ?_
  refine v_goto (pc := 11) (tgt := 15) dX_noPlace_11 rfl ?_
  exact v_zret (pc := 15) dX_noPlace_15 (by decide) (by decide) hf
def fX_noPlace (n : Nat) (h : MH) (i_0 : Int32) : Option (MH × Int32) := (if i_0 < (0:Int32) then (fX_noPlace_10 n h) else (if i_0 < (10:Int32) then (retZ h (0:Int32)) else (fX_noPlace_10 n h)))
set_option maxRecDepth 20000 in
set_option maxHeartbeats 4000000 in
theorem sX_noPlace {g : Gh} {h' : MH} {r' : Int32} {n : Nat} {h : MH} {i_0 : Int32} (hf : fX_noPlace n h i_0 = some (h', r')) : Sp g yX_noPlace cX_noPlace 1 (some .boolean) rmX_noPlace h [.int i_0] h' (some (.int r')) := by
  refine sp_of (by decide) (Nat.le_of_ble_eq_true rfl) ?_
  change V g yX_noPlace cX_noPlace 1 (some .boolean) rmX_noPlace (ZQ g rmX_noPlace h' (some (.int r'))) 0 0 h 0 [some (.int i_0)] []
  unfold fX_noPlace at hf
  refine v_iload_n (i := 0) (pc := 0) dX_noPlace_0 rfl rfl ?_
  refine v_if_lt (pc := 1) (tgt := 10) dX_noPlace_1 rfl hf (fun hf => ?_) (fun hf => ?_)
  · refine v_wk (ls' := [none]) trivial ?_
    exact tX_noPlace_10 n h hf
  refine v_iload_n (i := 0) (pc := 4) dX_noPlace_4 rfl rfl ?_
  refine v_bipush (pc := 5) (10:Int32) dX_noPlace_5 rfl ?_
  refine v_icmp_lt (pc := 7) (tgt := 14) dX_noPlace_7 rfl hf (fun hf => ?_) (fun hf => ?_)
  · refine v_iconst (pc := 14) (0:Int32) dX_noPlace_14 rfl ?_
    exact v_zret (pc := 15) dX_noPlace_15 (by decide) (by decide) hf
  refine v_wk (ls' := [none]) trivial ?_
  exact tX_noPlace_10 n h hf
abbrev rmMa_min : Room := { frames := 0, cells := 0, slots := 0, locals := 0 }
def fMa_min (h : MH) (i_0 : Int32) (i_1 : Int32) : Option (MH × Int32) := (if i_1 < i_0 then (some (h, i_1)) else (some (h, i_0)))
set_option maxRecDepth 20000 in
set_option maxHeartbeats 4000000 in
theorem sMa_min {g : Gh} {h' : MH} {r' : Int32} {h : MH} {i_0 : Int32} {i_1 : Int32} (hf : fMa_min h i_0 i_1 = some (h', r')) : Sp g yMa_min cMa_min 2 (some .int) rmMa_min h [.int i_0, .int i_1] h' (some (.int r')) := by
  refine sp_ofF (by decide +kernel) (Nat.le_of_ble_eq_true rfl) ?_
  change V g yMa_min cMa_min 2 (some .int) rmMa_min (ZQ g rmMa_min h' (some (.int r'))) 0 0 h 0 [some (.int i_0), some (.int i_1)] []
  unfold fMa_min at hf
  refine v_iload_n (i := 0) (pc := 0) dMa_min_0 rfl rfl ?_
  refine v_iload_n (i := 1) (pc := 1) dMa_min_1 rfl rfl ?_
  refine v_icmp_gt (pc := 2) (tgt := 9) dMa_min_2 rfl hf (fun hf => ?_) (fun hf => ?_)
  · refine v_iload_n (i := 1) (pc := 9) dMa_min_9 rfl rfl ?_
    exact v_iret (pc := 10) dMa_min_10 (by decide) (by decide) hf
  refine v_iload_n (i := 0) (pc := 5) dMa_min_5 rfl rfl ?_
  refine v_goto (pc := 6) (tgt := 10) dMa_min_6 rfl ?_
  exact v_iret (pc := 10) dMa_min_10 (by decide) (by decide) hf
abbrev rmSg_init : Room := { frames := 1, cells := 1, slots := 72, locals := 21 }
def fSg_init_20 (n : Nat) (h : MH) (s0 : Int32) (s1 : Nat) (x0 : Nat) : Option MH := ((pf h s1 [7] 0 (.int s0)).bind fun h1 => ((gfI h1 x0 [7] 0).bind fun i2 => ((gfI h1 x0 [7] 0).bind fun i3 => ((gfI h1 x0 [7] 0).bind fun i4 => (naI h1 ((i2 * i3) + i4) 72 fun h5 a6 => ((pf h5 x0 [7] 1 (.ref a6)).bind fun h7 => (some h7)))))))
set_option maxRecDepth 20000 in
set_option maxHeartbeats 4000000 in
theorem tSg_init_20 {g : Gh} {h' : MH} (n : Nat) (h : MH) (s0 : Int32) (s1 : Nat) (x0 : Nat) (hf : fSg_init_20 n h s0 s1 x0 = some h') : V g ySg_init cSg_init 2 none rmSg_init (ZQ g rmSg_init h' none) 0 0 h 20 [some (.ref x0), none] [.int s0, .ref s1] := by
  unfold fSg_init_20 at hf
  refine v_putF (pc := 20) ffSg_15 rfl (fun _ => ⟨rfl, rfl⟩) dSg_init_20 hf (fun h1 hf => ?_)
  refine v_aload_n (i := 0) (pc := 23) dSg_init_23 rfl rfl ?_
  refine v_aload_n (i := 0) (pc := 24) dSg_init_24 rfl rfl ?_
  refine v_getI (pc := 25) fgSg_15 dSg_init_25 hf (fun i2 hf => ?_)
  refine v_aload_n (i := 0) (pc := 28) dSg_init_28 rfl rfl ?_
  refine v_getI (pc := 29) fgSg_15 dSg_init_29 hf (fun i3 hf => ?_)
  refine v_imul (pc := 32) dSg_init_32 ?_
  refine v_aload_n (i := 0) (pc := 33) dSg_init_33 rfl rfl ?_
  refine v_getI (pc := 34) fgSg_15 dSg_init_34 hf (fun i4 hf => ?_)
  refine v_iadd (pc := 37) dSg_init_37 ?_
  refine v_newI (pc := 38) dSg_init_38 arI (by decide) (Nat.le_of_ble_eq_true rfl) (Nat.le_of_ble_eq_true rfl) hf (fun h5 a6 hf => ?_)
  refine v_putF (pc := 40) ffSg_21 rfl (fun _ => ⟨rfl, rfl⟩) dSg_init_40 hf (fun h7 hf => ?_)
  exact v_vret (pc := 43) dSg_init_43 (by decide) (by decide) hf
def fSg_init (n : Nat) (h : MH) (a_0 : Nat) (i_1 : Int32) : Option MH := (if (1:Int32) ≤ i_1 then (bnd2 (fMa_min h i_1 (8:Int32)) fun h1 i2 => (fSg_init_20 n h1 i2 a_0 a_0)) else (fSg_init_20 n h (1:Int32) a_0 a_0))
set_option maxRecDepth 20000 in
set_option maxHeartbeats 4000000 in
theorem sSg_init {g : Gh} {h' : MH} {n : Nat} {h : MH} {a_0 : Nat} {i_1 : Int32} (hf : fSg_init n h a_0 i_1 = some h') : Sp g ySg_init cSg_init 2 none rmSg_init h [.ref a_0, .int i_1] h' none := by
  refine sp_of (by decide) (Nat.le_of_ble_eq_true rfl) ?_
  change V g ySg_init cSg_init 2 none rmSg_init (ZQ g rmSg_init h' none) 0 0 h 0 [some (.ref a_0), some (.int i_1)] []
  unfold fSg_init at hf
  refine v_aload_n (i := 0) (pc := 0) dSg_init_0 rfl rfl ?_
  refine v_objInit (pc := 1) dSg_init_1 mlSg_3 obI obC (by decide) (Nat.le_of_ble_eq_true rfl) ?_
  refine v_aload_n (i := 0) (pc := 4) dSg_init_4 rfl rfl ?_
  refine v_iload_n (i := 1) (pc := 5) dSg_init_5 rfl rfl ?_
  refine v_iconst (pc := 6) (1:Int32) dSg_init_6 rfl ?_
  refine v_icmp_ge (pc := 7) (tgt := 14) dSg_init_7 rfl hf (fun hf => ?_) (fun hf => ?_)
  rotate_left
  · refine v_iconst (pc := 10) (1:Int32) dSg_init_10 rfl ?_
    refine v_goto (pc := 11) (tgt := 20) dSg_init_11 rfl ?_
    refine v_wk (ls' := [some (.ref a_0), none]) ⟨rfl, trivial⟩ ?_
    exact tSg_init_20 n h (1:Int32) a_0 a_0 hf
  refine v_iload_n (i := 1) (pc := 14) dSg_init_14 rfl rfl ?_
  refine v_bipush (pc := 15) (8:Int32) dSg_init_15 rfl ?_
  obtain ⟨h1, i2, e3, hf⟩ := bndp hf
  refine v_S1 (pc := 17) (As := [.int i_1, .int (8:Int32)]) (rest := [.ref a_0]) lsSg_9 (sMa_min e3) ⟨Nat.le_of_ble_eq_true rfl, Nat.le_of_ble_eq_true rfl, Nat.le_of_ble_eq_true rfl, Nat.le_of_ble_eq_true rfl⟩ dSg_init_17 rfl rfl (Nat.le_of_ble_eq_true rfl) ?_
  refine v_wk (ls' := [some (.ref a_0), none]) ⟨rfl, trivial⟩ ?_
  exact tSg_init_20 n h1 i2 a_0 a_0 hf
abbrev rmMa_floorMod : Room := { frames := 0, cells := 0, slots := 0, locals := 0 }
def fMa_floorMod (h : MH) (j_0 : Int64) (j_1 : Int64) : Option (MH × Int64) := (nzL j_1 (if (0:Int64) ≤ (j_0 ^^^ j_1) then (some (h, (lrm j_0 j_1))) else (if (lrm j_0 j_1) = (0:Int64) then (some (h, (lrm j_0 j_1))) else (some (h, ((lrm j_0 j_1) + j_1))))))
set_option maxRecDepth 20000 in
set_option maxHeartbeats 4000000 in
theorem sMa_floorMod {g : Gh} {h' : MH} {r' : Int64} {h : MH} {j_0 : Int64} {j_1 : Int64} (hf : fMa_floorMod h j_0 j_1 = some (h', r')) : Sp g yMa_floorMod cMa_floorMod 6 (some .long) rmMa_floorMod h [.long j_0, .long j_1] h' (some (.long r')) := by
  refine sp_ofF (by decide +kernel) (Nat.le_of_ble_eq_true rfl) ?_
  change V g yMa_floorMod cMa_floorMod 6 (some .long) rmMa_floorMod (ZQ g rmMa_floorMod h' (some (.long r'))) 0 0 h 0 [some (.long j_0), none, some (.long j_1), none, none, none] []
  unfold fMa_floorMod at hf
  refine v_lload_n (i := 0) (pc := 0) dMa_floorMod_0 rfl rfl ?_
  refine v_lload_n (i := 2) (pc := 1) dMa_floorMod_1 rfl rfl ?_
  obtain ⟨z1, hf⟩ := nzL_of hf
  refine v_lrem (pc := 2) dMa_floorMod_2 z1 ?_
  refine v_lstore (pc := 3) (ls' := [some (.long j_0), none, some (.long j_1), none, some (.long (lrm j_0 j_1)), none]) dMa_floorMod_3 (by decide) rfl ?_
  refine v_lload_n (i := 0) (pc := 5) dMa_floorMod_5 rfl rfl ?_
  refine v_lload_n (i := 2) (pc := 6) dMa_floorMod_6 rfl rfl ?_
  refine v_lxor (pc := 7) dMa_floorMod_7 ?_
  refine v_lconst (pc := 8) (0:Int64) dMa_floorMod_8 rfl ?_
  refine v_lcmp_ge (pc := 9) (tgt := 25) dMa_floorMod_9 dMa_floorMod_10 rfl hf (fun hf => ?_) (fun hf => ?_)
  · refine v_lload (pc := 25) dMa_floorMod_25 rfl ?_
    exact v_lret (pc := 27) dMa_floorMod_27 (by decide) (by decide) hf
  refine v_lload (pc := 13) dMa_floorMod_13 rfl ?_
  refine v_lconst (pc := 15) (0:Int64) dMa_floorMod_15 rfl ?_
  refine v_lcmp_eq (pc := 16) (tgt := 25) dMa_floorMod_16 dMa_floorMod_17 rfl hf (fun hf => ?_) (fun hf => ?_)
  · refine v_lload (pc := 25) dMa_floorMod_25 rfl ?_
    exact v_lret (pc := 27) dMa_floorMod_27 (by decide) (by decide) hf
  refine v_lload (pc := 20) dMa_floorMod_20 rfl ?_
  refine v_lload_n (i := 2) (pc := 22) dMa_floorMod_22 rfl rfl ?_
  refine v_ladd (pc := 23) dMa_floorMod_23 ?_
  exact v_lret (pc := 24) dMa_floorMod_24 (by decide) (by decide) hf
abbrev rmMo_of : Room := { frames := 1, cells := 0, slots := 0, locals := 25 }
def fMo_of (h : MH) (a_0 : Nat) (j_1 : Int64) : Option (MH × Int64) := ((gfL h a_0 [3] 0).bind fun j1 => (bnd2 (fMa_floorMod h j_1 j1) fun h2 j3 => (some (h2, j3))))
set_option maxRecDepth 20000 in
set_option maxHeartbeats 4000000 in
theorem sMo_of {g : Gh} {h' : MH} {r' : Int64} {h : MH} {a_0 : Nat} {j_1 : Int64} (hf : fMo_of h a_0 j_1 = some (h', r')) : Sp g yMo_of cMo_of 3 (some .long) rmMo_of h [.ref a_0, .long j_1] h' (some (.long r')) := by
  refine sp_of (by decide) (Nat.le_of_ble_eq_true rfl) ?_
  change V g yMo_of cMo_of 3 (some .long) rmMo_of (ZQ g rmMo_of h' (some (.long r'))) 0 0 h 0 [some (.ref a_0), some (.long j_1), none] []
  unfold fMo_of at hf
  refine v_lload_n (i := 1) (pc := 0) dMo_of_0 rfl rfl ?_
  refine v_aload_n (i := 0) (pc := 1) dMo_of_1 rfl rfl ?_
  refine v_getL (pc := 2) fgMo_15 dMo_of_2 hf (fun j1 hf => ?_)
  obtain ⟨h2, j3, e4, hf⟩ := bndp hf
  refine v_S1 (pc := 5) (As := [.long j_1, .long j1]) (rest := []) lsMo_20 (sMa_floorMod e4) ⟨Nat.le_of_ble_eq_true rfl, Nat.le_of_ble_eq_true rfl, Nat.le_of_ble_eq_true rfl, Nat.le_of_ble_eq_true rfl⟩ dMo_of_5 rfl rfl (Nat.le_of_ble_eq_true rfl) ?_
  exact v_lret (pc := 8) dMo_of_8 (by decide) (by decide) hf
abbrev rmMo_times : Room := { frames := 0, cells := 0, slots := 0, locals := 0 }
def fMo_times (h : MH) (a_0 : Nat) (j_1 : Int64) (j_2 : Int64) : Option (MH × Int64) := ((gfL h a_0 [3] 0).bind fun j1 => (nzL j1 (some (h, (lrm (j_1 * j_2) j1)))))
set_option maxRecDepth 20000 in
set_option maxHeartbeats 4000000 in
theorem sMo_times {g : Gh} {h' : MH} {r' : Int64} {h : MH} {a_0 : Nat} {j_1 : Int64} {j_2 : Int64} (hf : fMo_times h a_0 j_1 j_2 = some (h', r')) : Sp g yMo_times cMo_times 5 (some .long) rmMo_times h [.ref a_0, .long j_1, .long j_2] h' (some (.long r')) := by
  refine sp_of (by decide) (Nat.le_of_ble_eq_true rfl) ?_
  change V g yMo_times cMo_times 5 (some .long) rmMo_times (ZQ g rmMo_times h' (some (.long r'))) 0 0 h 0 [some (.ref a_0), some (.long j_1), none, some (.long j_2), none] []
  unfold fMo_times at hf
  refine v_lload_n (i := 1) (pc := 0) dMo_times_0 rfl rfl ?_
  refine v_lload_n (i := 3) (pc := 1) dMo_times_1 rfl rfl ?_
  refine v_lmul (pc := 2) dMo_times_2 ?_
  refine v_aload_n (i := 0) (pc := 3) dMo_times_3 rfl rfl ?_
  refine v_getL (pc := 4) fgMo_15 dMo_times_4 hf (fun j1 hf => ?_)
  obtain ⟨z2, hf⟩ := nzL_of hf
  refine v_lrem (pc := 7) dMo_times_7 z2 ?_
  exact v_lret (pc := 8) dMo_times_8 (by decide) (by decide) hf
abbrev rmMo_power : Room := { frames := 1, cells := 0, slots := 0, locals := 24 }
def fMo_power_46 (k9 : (MH × Nat × Int64 × Int64 × Int64 × Int32) → Option (MH × Int64)) (n : Nat) (h : MH) (x0 : Nat) (x3 : Int64) (x5 : Int64) (x7 : Int64) (x9 : Int32) : Option (MH × Int64) := ((chk h x0 3).bind fun _ => (bnd2 (fMo_times h x0 x7 x7) fun h1 j2 => (k9 (h1, x0, x3, x5, j2, (x9 + (1:Int32))))))
set_option maxRecDepth 20000 in
set_option maxHeartbeats 4000000 in
theorem tMo_power_46 {g : Gh} {h' : MH} {r' : Int64} {k9 : (MH × Nat × Int64 × Int64 × Int64 × Int32) → Option (MH × Int64)} (hk9 : ∀ (h : MH) (x0 : Nat) (x3 : Int64) (x5 : Int64) (x7 : Int64) (x9 : Int32), k9 (h, x0, x3, x5, x7, x9) = some (h', r') → V g yMo_power cMo_power 10 (some .long) rmMo_power (ZQ g rmMo_power h' (some (.long r'))) 0 0 h 9 [some (.ref x0), none, none, some (.long x3), none, some (.long x5), none, some (.long x7), none, some (.int x9)] []) (n : Nat) (h : MH) (x0 : Nat) (x3 : Int64) (x5 : Int64) (x7 : Int64) (x9 : Int32) (hf : fMo_power_46 k9 n h x0 x3 x5 x7 x9 = some (h', r')) : V g yMo_power cMo_power 10 (some .long) rmMo_power (ZQ g rmMo_power h' (some (.long r'))) 0 0 h 46 [some (.ref x0), none, none, some (.long x3), none, some (.long x5), none, some (.long x7), none, some (.int x9)] [] := by
  unfold fMo_power_46 at hf
  refine v_aload_n (i := 0) (pc := 46) dMo_power_46 rfl rfl ?_
  refine v_lload (pc := 47) dMo_power_47 rfl ?_
  refine v_lload (pc := 49) dMo_power_49 rfl ?_
  obtain ⟨u4, cu4, hf⟩ := bnd hf
  obtain ⟨h1, j2, e3, hf⟩ := bndp hf
  refine v_M1 (pc := 51) (As := [.long x7, .long x7]) (rest := []) lmMo_26 cu4 (sMo_times e3) ⟨Nat.le_of_ble_eq_true rfl, Nat.le_of_ble_eq_true rfl, Nat.le_of_ble_eq_true rfl, Nat.le_of_ble_eq_true rfl⟩ dMo_power_51 rfl rfl (Nat.le_of_ble_eq_true rfl) ?_
  refine v_lstore (pc := 54) (ls' := [some (.ref x0), none, none, some (.long x3), none, some (.long x5), none, some (.long j2), none, some (.int x9)]) dMo_power_54 (by decide) rfl ?_
  refine v_iinc (pc := 56) (v := (x9 + (1:Int32))) (ls' := [some (.ref x0), none, none, some (.long x3), none, some (.long x5), none, some (.long j2), none, some (.int (x9 + (1:Int32)))]) dMo_power_56 rfl rfl (by decide) rfl ?_
  refine v_goto (pc := 59) (tgt := 9) dMo_power_59 rfl ?_
  refine v_wk (ls' := [some (.ref x0), none, none, some (.long x3), none, some (.long x5), none, some (.long j2), none, some (.int (x9 + (1:Int32)))]) ⟨rfl, rfl, rfl, rfl, rfl, trivial⟩ ?_
  exact hk9 h1 x0 x3 x5 j2 (x9 + (1:Int32)) hf
def bMo_power_9 (n : Nat) (k9 : (MH × Nat × Int64 × Int64 × Int64 × Int32) → Option (MH × Int64)) (h : MH) (x0 : Nat) (x3 : Int64) (x5 : Int64) (x7 : Int64) (x9 : Int32) : Option (MH × Int64) := (if (31:Int32) ≤ x9 then (some (h, x5)) else (if (x3 >>> (x9.toInt64 &&& 63)) = (0:Int64) then (some (h, x5)) else (if ((x3 >>> (x9.toInt64 &&& 63)) &&& (1:Int64)) = (1:Int64) then ((chk h x0 3).bind fun _ => (bnd2 (fMo_times h x0 x5 x7) fun h1 j2 => (fMo_power_46 k9 n h1 x0 x3 j2 x7 x9))) else (fMo_power_46 k9 n h x0 x3 x5 x7 x9))))
def fMo_power_9 (n : Nat) (h : MH) (x0 : Nat) (x3 : Int64) (x5 : Int64) (x7 : Int64) (x9 : Int32) : Option (MH × Int64) := lp (fun n k s => bMo_power_9 n k s.1 s.2.1 s.2.2.1 s.2.2.2.1 s.2.2.2.2.1 s.2.2.2.2.2) n (h, x0, x3, x5, x7, x9)
set_option maxRecDepth 20000 in
set_option maxHeartbeats 4000000 in
theorem tMo_power_9 {g : Gh} {h' : MH} {r' : Int64} (n : Nat) (h : MH) (x0 : Nat) (x3 : Int64) (x5 : Int64) (x7 : Int64) (x9 : Int32) (hf : fMo_power_9 n h x0 x3 x5 x7 x9 = some (h', r')) : V g yMo_power cMo_power 10 (some .long) rmMo_power (ZQ g rmMo_power h' (some (.long r'))) 0 0 h 9 [some (.ref x0), none, none, some (.long x3), none, some (.long x5), none, some (.long x7), none, some (.int x9)] [] := by
  unfold fMo_power_9 at hf
  refine lp_ind (P := fun s => V g yMo_power cMo_power 10 (some .long) rmMo_power (ZQ g rmMo_power h' (some (.long r'))) 0 0 s.1 9 [some (.ref s.2.1), none, none, some (.long s.2.2.1), none, some (.long s.2.2.2.1), none, some (.long s.2.2.2.2.1), none, some (.int s.2.2.2.2.2)] []) (fun n k9 hk9 s hf => ?_) n (h, x0, x3, x5, x7, x9) hf
  obtain ⟨h, x0, x3, x5, x7, x9⟩ := s
  replace hk9 : ∀ (h : MH) (x0 : Nat) (x3 : Int64) (x5 : Int64) (x7 : Int64) (x9 : Int32), k9 (h, x0, x3, x5, x7, x9) = some (h', r') → V g yMo_power cMo_power 10 (some .long) rmMo_power (ZQ g rmMo_power h' (some (.long r'))) 0 0 h 9 [some (.ref x0), none, none, some (.long x3), none, some (.long x5), none, some (.long x7), none, some (.int x9)] [] := fun h x0 x3 x5 x7 x9 => hk9 (h, x0, x3, x5, x7, x9)
  replace hf : bMo_power_9 n k9 h x0 x3 x5 x7 x9 = some (h', r') := hf
  change V g yMo_power cMo_power 10 (some .long) rmMo_power (ZQ g rmMo_power h' (some (.long r'))) 0 0 h 9 [some (.ref x0), none, none, some (.long x3), none, some (.long x5), none, some (.long x7), none, some (.int x9)] []
  unfold bMo_power_9 at hf
  refine v_iload (pc := 9) dMo_power_9 rfl ?_
  refine v_bipush (pc := 11) (31:Int32) dMo_power_11 rfl ?_
  refine v_icmp_ge (pc := 13) (tgt := 62) dMo_power_13 rfl hf (fun hf => ?_) (fun hf => ?_)
  · refine v_lload (pc := 62) dMo_power_62 rfl ?_
    exact v_lret (pc := 64) dMo_power_64 (by decide) (by decide) hf
  refine v_lload_n (i := 3) (pc := 16) dMo_power_16 rfl rfl ?_
  refine v_iload (pc := 17) dMo_power_17 rfl ?_
  refine v_lshr (pc := 19) dMo_power_19 ?_
  refine v_lconst (pc := 20) (0:Int64) dMo_power_20 rfl ?_
  refine v_lcmp_eq (pc := 21) (tgt := 62) dMo_power_21 dMo_power_22 rfl hf (fun hf => ?_) (fun hf => ?_)
  · refine v_lload (pc := 62) dMo_power_62 rfl ?_
    exact v_lret (pc := 64) dMo_power_64 (by decide) (by decide) hf
  refine v_lload_n (i := 3) (pc := 25) dMo_power_25 rfl rfl ?_
  refine v_iload (pc := 26) dMo_power_26 rfl ?_
  refine v_lshr (pc := 28) dMo_power_28 ?_
  refine v_lconst (pc := 29) (1:Int64) dMo_power_29 rfl ?_
  refine v_land (pc := 30) dMo_power_30 ?_
  refine v_lconst (pc := 31) (1:Int64) dMo_power_31 rfl ?_
  refine v_lcmp_ne (pc := 32) (tgt := 46) dMo_power_32 dMo_power_33 rfl hf (fun hf => ?_) (fun hf => ?_)
  rotate_left
  · refine v_wk (ls' := [some (.ref x0), none, none, some (.long x3), none, some (.long x5), none, some (.long x7), none, some (.int x9)]) ⟨rfl, rfl, rfl, rfl, rfl, trivial⟩ ?_
    exact tMo_power_46 hk9 n h x0 x3 x5 x7 x9 hf
  refine v_aload_n (i := 0) (pc := 36) dMo_power_36 rfl rfl ?_
  refine v_lload (pc := 37) dMo_power_37 rfl ?_
  refine v_lload (pc := 39) dMo_power_39 rfl ?_
  obtain ⟨u4, cu4, hf⟩ := bnd hf
  obtain ⟨h1, j2, e3, hf⟩ := bndp hf
  refine v_M1 (pc := 41) (As := [.long x5, .long x7]) (rest := []) lmMo_26 cu4 (sMo_times e3) ⟨Nat.le_of_ble_eq_true rfl, Nat.le_of_ble_eq_true rfl, Nat.le_of_ble_eq_true rfl, Nat.le_of_ble_eq_true rfl⟩ dMo_power_41 rfl rfl (Nat.le_of_ble_eq_true rfl) ?_
  refine v_lstore (pc := 44) (ls' := [some (.ref x0), none, none, some (.long x3), none, some (.long j2), none, some (.long x7), none, some (.int x9)]) dMo_power_44 (by decide) rfl ?_
  refine v_wk (ls' := [some (.ref x0), none, none, some (.long x3), none, some (.long j2), none, some (.long x7), none, some (.int x9)]) ⟨rfl, rfl, rfl, rfl, rfl, trivial⟩ ?_
  exact tMo_power_46 hk9 n h1 x0 x3 j2 x7 x9 hf
def fMo_power (n : Nat) (h : MH) (a_0 : Nat) (j_1 : Int64) (j_2 : Int64) : Option (MH × Int64) := (fMo_power_9 n h a_0 j_2 (1:Int64) j_1 (0:Int32))
set_option maxRecDepth 20000 in
set_option maxHeartbeats 4000000 in
theorem sMo_power {g : Gh} {h' : MH} {r' : Int64} {n : Nat} {h : MH} {a_0 : Nat} {j_1 : Int64} {j_2 : Int64} (hf : fMo_power n h a_0 j_1 j_2 = some (h', r')) : Sp g yMo_power cMo_power 10 (some .long) rmMo_power h [.ref a_0, .long j_1, .long j_2] h' (some (.long r')) := by
  refine sp_of (by decide) (Nat.le_of_ble_eq_true rfl) ?_
  change V g yMo_power cMo_power 10 (some .long) rmMo_power (ZQ g rmMo_power h' (some (.long r'))) 0 0 h 0 [some (.ref a_0), some (.long j_1), none, some (.long j_2), none, none, none, none, none, none] []
  unfold fMo_power at hf
  refine v_lconst (pc := 0) (1:Int64) dMo_power_0 rfl ?_
  refine v_lstore (pc := 1) (ls' := [some (.ref a_0), some (.long j_1), none, some (.long j_2), none, some (.long (1:Int64)), none, none, none, none]) dMo_power_1 (by decide) rfl ?_
  refine v_lload_n (i := 1) (pc := 3) dMo_power_3 rfl rfl ?_
  refine v_lstore (pc := 4) (ls' := [some (.ref a_0), some (.long j_1), none, some (.long j_2), none, some (.long (1:Int64)), none, some (.long j_1), none, none]) dMo_power_4 (by decide) rfl ?_
  refine v_iconst (pc := 6) (0:Int32) dMo_power_6 rfl ?_
  refine v_istore (pc := 7) (ls' := [some (.ref a_0), some (.long j_1), none, some (.long j_2), none, some (.long (1:Int64)), none, some (.long j_1), none, some (.int (0:Int32))]) dMo_power_7 (by decide) rfl ?_
  refine v_wk (ls' := [some (.ref a_0), none, none, some (.long j_2), none, some (.long (1:Int64)), none, some (.long j_1), none, some (.int (0:Int32))]) ⟨rfl, rfl, rfl, rfl, rfl, trivial⟩ ?_
  exact tMo_power_9 n h a_0 j_2 (1:Int64) j_1 (0:Int32) hf
abbrev rmMo_inverse : Room := { frames := 2, cells := 0, slots := 0, locals := 53 }
def fMo_inverse (n : Nat) (h : MH) (a_0 : Nat) (j_1 : Int64) : Option (MH × Int64) := ((gfL h a_0 [3] 0).bind fun j1 => ((chk h a_0 3).bind fun _ => (bnd2 (fMo_power n h a_0 j_1 (j1 - (2:Int64))) fun h2 j3 => (some (h2, j3)))))
set_option maxRecDepth 20000 in
set_option maxHeartbeats 4000000 in
theorem sMo_inverse {g : Gh} {h' : MH} {r' : Int64} {n : Nat} {h : MH} {a_0 : Nat} {j_1 : Int64} (hf : fMo_inverse n h a_0 j_1 = some (h', r')) : Sp g yMo_inverse cMo_inverse 3 (some .long) rmMo_inverse h [.ref a_0, .long j_1] h' (some (.long r')) := by
  refine sp_of (by decide) (Nat.le_of_ble_eq_true rfl) ?_
  change V g yMo_inverse cMo_inverse 3 (some .long) rmMo_inverse (ZQ g rmMo_inverse h' (some (.long r'))) 0 0 h 0 [some (.ref a_0), some (.long j_1), none] []
  unfold fMo_inverse at hf
  refine v_aload_n (i := 0) (pc := 0) dMo_inverse_0 rfl rfl ?_
  refine v_lload_n (i := 1) (pc := 1) dMo_inverse_1 rfl rfl ?_
  refine v_aload_n (i := 0) (pc := 2) dMo_inverse_2 rfl rfl ?_
  refine v_getL (pc := 3) fgMo_15 dMo_inverse_3 hf (fun j1 hf => ?_)
  refine v_ldc2 (pc := 6) dMo_inverse_6 klMo_29 ?_
  refine v_lsub (pc := 9) dMo_inverse_9 ?_
  obtain ⟨u5, cu5, hf⟩ := bnd hf
  obtain ⟨h2, j3, e4, hf⟩ := bndp hf
  refine v_M1 (pc := 10) (As := [.long j_1, .long (j1 - (2:Int64))]) (rest := []) lmMo_31 cu5 (sMo_power e4) ⟨Nat.le_of_ble_eq_true rfl, Nat.le_of_ble_eq_true rfl, Nat.le_of_ble_eq_true rfl, Nat.le_of_ble_eq_true rfl⟩ dMo_inverse_10 rfl rfl (Nat.le_of_ble_eq_true rfl) ?_
  exact v_lret (pc := 13) dMo_inverse_13 (by decide) (by decide) hf
abbrev rmX_readFractions : Room := { frames := 3, cells := 0, slots := 0, locals := 75 }
def bX_readFractions_3 (n : Nat) (k3 : (MH × Nat × Nat × Int32 × Nat × Int32) → Option (MH × Int32)) (h : MH) (x0 : Nat) (x1 : Nat) (x2 : Int32) (x3 : Nat) (x4 : Int32) : Option (MH × Int32) := ((lenA h x3).bind fun i1 => (if i1 ≤ x4 then (retZ h (1:Int32)) else ((gfR h x0 [11] 0).bind fun a2 => ((gfR h x1 [6] 0).bind fun a3 => ((rdL h a3 (x2 + ((2:Int32) * x4))).bind fun j4 => ((chk h a2 3).bind fun _ => (bnd2 (fMo_of h a2 j4) fun h5 j6 => ((gfR h5 x0 [11] 0).bind fun a7 => ((gfR h5 x1 [6] 0).bind fun a8 => ((rdL h5 a8 ((x2 + ((2:Int32) * x4)) + (1:Int32))).bind fun j9 => ((chk h5 a7 3).bind fun _ => (bnd2 (fMo_of h5 a7 j9) fun h10 j11 => (if j11 = (0:Int64) then (retZ h10 (0:Int32)) else ((gfR h10 x0 [11] 0).bind fun a12 => ((gfR h10 x0 [11] 0).bind fun a13 => ((chk h10 a13 3).bind fun _ => (bnd2 (fMo_inverse n h10 a13 j11) fun h14 j15 => ((chk h14 a12 3).bind fun _ => (bnd2 (fMo_times h14 a12 j6 j15) fun h16 j17 => ((wrI h16 x3 x4 j17.toInt32).bind fun h18 => (k3 (h18, x0, x1, x2, x3, (x4 + (1:Int32))))))))))))))))))))))))
def fX_readFractions_3 (n : Nat) (h : MH) (x0 : Nat) (x1 : Nat) (x2 : Int32) (x3 : Nat) (x4 : Int32) : Option (MH × Int32) := lp (fun n k s => bX_readFractions_3 n k s.1 s.2.1 s.2.2.1 s.2.2.2.1 s.2.2.2.2.1 s.2.2.2.2.2) n (h, x0, x1, x2, x3, x4)
set_option maxRecDepth 20000 in
set_option maxHeartbeats 4000000 in
theorem tX_readFractions_3 {g : Gh} {h' : MH} {r' : Int32} (n : Nat) (h : MH) (x0 : Nat) (x1 : Nat) (x2 : Int32) (x3 : Nat) (x4 : Int32) (hf : fX_readFractions_3 n h x0 x1 x2 x3 x4 = some (h', r')) : V g yX_readFractions cX_readFractions 9 (some .boolean) rmX_readFractions (ZQ g rmX_readFractions h' (some (.int r'))) 0 0 h 3 [some (.ref x0), some (.ref x1), some (.int x2), some (.ref x3), some (.int x4), none, none, none, none] [] := by
  unfold fX_readFractions_3 at hf
  refine lp_ind (P := fun s => V g yX_readFractions cX_readFractions 9 (some .boolean) rmX_readFractions (ZQ g rmX_readFractions h' (some (.int r'))) 0 0 s.1 3 [some (.ref s.2.1), some (.ref s.2.2.1), some (.int s.2.2.2.1), some (.ref s.2.2.2.2.1), some (.int s.2.2.2.2.2), none, none, none, none] []) (fun n k3 hk3 s hf => ?_) n (h, x0, x1, x2, x3, x4) hf
  obtain ⟨h, x0, x1, x2, x3, x4⟩ := s
  replace hk3 : ∀ (h : MH) (x0 : Nat) (x1 : Nat) (x2 : Int32) (x3 : Nat) (x4 : Int32), k3 (h, x0, x1, x2, x3, x4) = some (h', r') → V g yX_readFractions cX_readFractions 9 (some .boolean) rmX_readFractions (ZQ g rmX_readFractions h' (some (.int r'))) 0 0 h 3 [some (.ref x0), some (.ref x1), some (.int x2), some (.ref x3), some (.int x4), none, none, none, none] [] := fun h x0 x1 x2 x3 x4 => hk3 (h, x0, x1, x2, x3, x4)
  replace hf : bX_readFractions_3 n k3 h x0 x1 x2 x3 x4 = some (h', r') := hf
  change V g yX_readFractions cX_readFractions 9 (some .boolean) rmX_readFractions (ZQ g rmX_readFractions h' (some (.int r'))) 0 0 h 3 [some (.ref x0), some (.ref x1), some (.int x2), some (.ref x3), some (.int x4), none, none, none, none] []
  unfold bX_readFractions_3 at hf
  refine v_iload (pc := 3) dX_readFractions_3 rfl ?_
  refine v_aload_n (i := 3) (pc := 5) dX_readFractions_5 rfl rfl ?_
  refine v_alen (pc := 6) dX_readFractions_6 hf (fun i1 hf => ?_)
  refine v_icmp_ge (pc := 7) (tgt := 90) dX_readFractions_7 rfl hf (fun hf => ?_) (fun hf => ?_)
  · refine v_iconst (pc := 90) (1:Int32) dX_readFractions_90 rfl ?_
    exact v_zret (pc := 91) dX_readFractions_91 (by decide) (by decide) hf
  refine v_aload_n (i := 0) (pc := 10) dX_readFractions_10 rfl rfl ?_
  refine v_getR (pc := 11) fgX_12 dX_readFractions_11 hf (fun a2 hf => ?_)
  refine v_aload_n (i := 1) (pc := 14) dX_readFractions_14 rfl rfl ?_
  refine v_getR (pc := 15) fgX_104 dX_readFractions_15 hf (fun a3 hf => ?_)
  refine v_iload_n (i := 2) (pc := 18) dX_readFractions_18 rfl rfl ?_
  refine v_iconst (pc := 19) (2:Int32) dX_readFractions_19 rfl ?_
  refine v_iload (pc := 20) dX_readFractions_20 rfl ?_
  refine v_imul (pc := 22) dX_readFractions_22 ?_
  refine v_iadd (pc := 23) dX_readFractions_23 ?_
  refine v_lald (pc := 24) dX_readFractions_24 hf (fun j4 hf => ?_)
  obtain ⟨u26, cu26, hf⟩ := bnd hf
  obtain ⟨h5, j6, e25, hf⟩ := bndp hf
  refine v_M1 (pc := 25) (As := [.long j4]) (rest := []) lmX_245 cu26 (sMo_of e25) ⟨Nat.le_of_ble_eq_true rfl, Nat.le_of_ble_eq_true rfl, Nat.le_of_ble_eq_true rfl, Nat.le_of_ble_eq_true rfl⟩ dX_readFractions_25 rfl rfl (Nat.le_of_ble_eq_true rfl) ?_
  refine v_lstore (pc := 28) (ls' := [some (.ref x0), some (.ref x1), some (.int x2), some (.ref x3), some (.int x4), some (.long j6), none, none, none]) dX_readFractions_28 (by decide) rfl ?_
  refine v_aload_n (i := 0) (pc := 30) dX_readFractions_30 rfl rfl ?_
  refine v_getR (pc := 31) fgX_12 dX_readFractions_31 hf (fun a7 hf => ?_)
  refine v_aload_n (i := 1) (pc := 34) dX_readFractions_34 rfl rfl ?_
  refine v_getR (pc := 35) fgX_104 dX_readFractions_35 hf (fun a8 hf => ?_)
  refine v_iload_n (i := 2) (pc := 38) dX_readFractions_38 rfl rfl ?_
  refine v_iconst (pc := 39) (2:Int32) dX_readFractions_39 rfl ?_
  refine v_iload (pc := 40) dX_readFractions_40 rfl ?_
  refine v_imul (pc := 42) dX_readFractions_42 ?_
  refine v_iadd (pc := 43) dX_readFractions_43 ?_
  refine v_iconst (pc := 44) (1:Int32) dX_readFractions_44 rfl ?_
  refine v_iadd (pc := 45) dX_readFractions_45 ?_
  refine v_lald (pc := 46) dX_readFractions_46 hf (fun j9 hf => ?_)
  obtain ⟨u24, cu24, hf⟩ := bnd hf
  obtain ⟨h10, j11, e23, hf⟩ := bndp hf
  refine v_M1 (pc := 47) (As := [.long j9]) (rest := []) lmX_245 cu24 (sMo_of e23) ⟨Nat.le_of_ble_eq_true rfl, Nat.le_of_ble_eq_true rfl, Nat.le_of_ble_eq_true rfl, Nat.le_of_ble_eq_true rfl⟩ dX_readFractions_47 rfl rfl (Nat.le_of_ble_eq_true rfl) ?_
  refine v_lstore (pc := 50) (ls' := [some (.ref x0), some (.ref x1), some (.int x2), some (.ref x3), some (.int x4), some (.long j6), none, some (.long j11), none]) dX_readFractions_50 (by decide) rfl ?_
  refine v_lload (pc := 52) dX_readFractions_52 rfl ?_
  refine v_lconst (pc := 54) (0:Int64) dX_readFractions_54 rfl ?_
  refine v_lcmp_ne (pc := 55) (tgt := 61) dX_readFractions_55 dX_readFractions_56 rfl hf (fun hf => ?_) (fun hf => ?_)
  · refine v_iconst (pc := 59) (0:Int32) dX_readFractions_59 rfl ?_
    exact v_zret (pc := 60) dX_readFractions_60 (by decide) (by decide) hf
  refine v_aload_n (i := 3) (pc := 61) dX_readFractions_61 rfl rfl ?_
  refine v_iload (pc := 62) dX_readFractions_62 rfl ?_
  refine v_aload_n (i := 0) (pc := 64) dX_readFractions_64 rfl rfl ?_
  refine v_getR (pc := 65) fgX_12 dX_readFractions_65 hf (fun a12 hf => ?_)
  refine v_lload (pc := 68) dX_readFractions_68 rfl ?_
  refine v_aload_n (i := 0) (pc := 70) dX_readFractions_70 rfl rfl ?_
  refine v_getR (pc := 71) fgX_12 dX_readFractions_71 hf (fun a13 hf => ?_)
  refine v_lload (pc := 74) dX_readFractions_74 rfl ?_
  obtain ⟨u22, cu22, hf⟩ := bnd hf
  obtain ⟨h14, j15, e21, hf⟩ := bndp hf
  refine v_M1 (pc := 76) (As := [.long j11]) (rest := [.long j6, .ref a12, .int x4, .ref x3]) lmX_249 cu22 (sMo_inverse e21) ⟨Nat.le_of_ble_eq_true rfl, Nat.le_of_ble_eq_true rfl, Nat.le_of_ble_eq_true rfl, Nat.le_of_ble_eq_true rfl⟩ dX_readFractions_76 rfl rfl (Nat.le_of_ble_eq_true rfl) ?_
  obtain ⟨u20, cu20, hf⟩ := bnd hf
  obtain ⟨h16, j17, e19, hf⟩ := bndp hf
  refine v_M1 (pc := 79) (As := [.long j6, .long j15]) (rest := [.int x4, .ref x3]) lmX_252 cu20 (sMo_times e19) ⟨Nat.le_of_ble_eq_true rfl, Nat.le_of_ble_eq_true rfl, Nat.le_of_ble_eq_true rfl, Nat.le_of_ble_eq_true rfl⟩ dX_readFractions_79 rfl rfl (Nat.le_of_ble_eq_true rfl) ?_
  refine v_l2i (pc := 82) dX_readFractions_82 ?_
  refine v_iast (pc := 83) dX_readFractions_83 hf (fun h18 hf => ?_)
  refine v_iinc (pc := 84) (v := (x4 + (1:Int32))) (ls' := [some (.ref x0), some (.ref x1), some (.int x2), some (.ref x3), some (.int (x4 + (1:Int32))), some (.long j6), none, some (.long j11), none]) dX_readFractions_84 rfl rfl (by decide) rfl ?_
  refine v_goto (pc := 87) (tgt := 3) dX_readFractions_87 rfl ?_
  refine v_wk (ls' := [some (.ref x0), some (.ref x1), some (.int x2), some (.ref x3), some (.int (x4 + (1:Int32))), none, none, none, none]) ⟨rfl, rfl, rfl, rfl, rfl, trivial⟩ ?_
  exact hk3 h18 x0 x1 x2 x3 (x4 + (1:Int32)) hf
def fX_readFractions (n : Nat) (h : MH) (a_0 : Nat) (a_1 : Nat) (i_2 : Int32) (a_3 : Nat) : Option (MH × Int32) := (fX_readFractions_3 n h a_0 a_1 i_2 a_3 (0:Int32))
set_option maxRecDepth 20000 in
set_option maxHeartbeats 4000000 in
theorem sX_readFractions {g : Gh} {h' : MH} {r' : Int32} {n : Nat} {h : MH} {a_0 : Nat} {a_1 : Nat} {i_2 : Int32} {a_3 : Nat} (hf : fX_readFractions n h a_0 a_1 i_2 a_3 = some (h', r')) : Sp g yX_readFractions cX_readFractions 9 (some .boolean) rmX_readFractions h [.ref a_0, .ref a_1, .int i_2, .ref a_3] h' (some (.int r')) := by
  refine sp_of (by decide) (Nat.le_of_ble_eq_true rfl) ?_
  change V g yX_readFractions cX_readFractions 9 (some .boolean) rmX_readFractions (ZQ g rmX_readFractions h' (some (.int r'))) 0 0 h 0 [some (.ref a_0), some (.ref a_1), some (.int i_2), some (.ref a_3), none, none, none, none, none] []
  unfold fX_readFractions at hf
  refine v_iconst (pc := 0) (0:Int32) dX_readFractions_0 rfl ?_
  refine v_istore (pc := 1) (ls' := [some (.ref a_0), some (.ref a_1), some (.int i_2), some (.ref a_3), some (.int (0:Int32)), none, none, none, none]) dX_readFractions_1 (by decide) rfl ?_
  refine v_wk (ls' := [some (.ref a_0), some (.ref a_1), some (.int i_2), some (.ref a_3), some (.int (0:Int32)), none, none, none, none]) ⟨rfl, rfl, rfl, rfl, rfl, trivial⟩ ?_
  exact tX_readFractions_3 n h a_0 a_1 i_2 a_3 (0:Int32) hf

abbrev rmWe_root : Room := { frames := 1, cells := 0, slots := 0, locals := 24 }
def fWe_root (h : MH) (a_0 : Nat) (i_1 : Int32) (i_2 : Int32) : Option MH := (if i_1 = (0:Int32) then ((gfR h a_0 [10] 2).bind fun a18 => ((wrL h a18 ((i_1 * (8:Int32)) + i_2) (1:Int64)).bind fun h19 => (some h19))) else ((gfR h a_0 [10] 2).bind fun a1 => ((gfR h a_0 [10] 1).bind fun a2 => ((gfR h a2 [0] 5).bind fun a3 => ((rdI h a3 i_1).bind fun i4 => ((rdL h a1 ((i4 * (8:Int32)) + i_2)).bind fun j5 => ((gfR h a_0 [10] 2).bind fun a6 => ((gfR h a_0 [10] 0).bind fun a7 => ((gfR h a_0 [10] 3).bind fun a8 => ((gfR h a_0 [10] 1).bind fun a9 => ((gfR h a9 [0] 6).bind fun a10 => ((rdI h a10 i_1).bind fun i11 => ((rdL h a8 ((i11 * (8:Int32)) + i_2)).bind fun j12 => ((chk h a7 3).bind fun _ => (bnd2 (fMo_times h a7 j5 j12) fun h13 j14 => ((wrL h13 a6 ((i_1 * (8:Int32)) + i_2) j14).bind fun h15 => (some h15)))))))))))))))))
set_option maxRecDepth 20000 in
set_option maxHeartbeats 4000000 in
theorem sWe_root {g : Gh} {h' : MH} {h : MH} {a_0 : Nat} {i_1 : Int32} {i_2 : Int32} (hf : fWe_root h a_0 i_1 i_2 = some h') : Sp g yWe_root cWe_root 6 none rmWe_root h [.ref a_0, .int i_1, .int i_2] h' none := by
  refine sp_of (by decide) (Nat.le_of_ble_eq_true rfl) ?_
  change V g yWe_root cWe_root 6 none rmWe_root (ZQ g rmWe_root h' none) 0 0 h 0 [some (.ref a_0), some (.int i_1), some (.int i_2), none, none, none] []
  unfold fWe_root at hf
  refine v_iload_n (i := 1) (pc := 0) dWe_root_0 rfl rfl ?_
  refine v_bipush (pc := 1) (8:Int32) dWe_root_1 rfl ?_
  refine v_imul (pc := 3) dWe_root_3 ?_
  refine v_iload_n (i := 2) (pc := 4) dWe_root_4 rfl rfl ?_
  refine v_iadd (pc := 5) dWe_root_5 ?_
  refine v_istore_n (i := 3) (pc := 6) (ls' := [some (.ref a_0), some (.int i_1), some (.int i_2), some (.int ((i_1 * (8:Int32)) + i_2)), none, none]) dWe_root_6 rfl (by decide) rfl ?_
  refine v_iload_n (i := 1) (pc := 7) dWe_root_7 rfl rfl ?_
  refine v_if_ne (pc := 8) (tgt := 19) dWe_root_8 rfl hf (fun hf => ?_) (fun hf => ?_)
  · refine v_aload_n (i := 0) (pc := 11) dWe_root_11 rfl rfl ?_
    refine v_getR (pc := 12) fgWe_9 dWe_root_12 hf (fun a18 hf => ?_)
    refine v_iload_n (i := 3) (pc := 15) dWe_root_15 rfl rfl ?_
    refine v_lconst (pc := 16) (1:Int64) dWe_root_16 rfl ?_
    refine v_last (pc := 17) dWe_root_17 hf (fun h19 hf => ?_)
    exact v_vret (pc := 18) dWe_root_18 (by decide) (by decide) hf
  refine v_aload_n (i := 0) (pc := 19) dWe_root_19 rfl rfl ?_
  refine v_getR (pc := 20) fgWe_9 dWe_root_20 hf (fun a1 hf => ?_)
  refine v_aload_n (i := 0) (pc := 23) dWe_root_23 rfl rfl ?_
  refine v_getR (pc := 24) fgWe_22 dWe_root_24 hf (fun a2 hf => ?_)
  refine v_getR (pc := 27) fgWe_59 dWe_root_27 hf (fun a3 hf => ?_)
  refine v_iload_n (i := 1) (pc := 30) dWe_root_30 rfl rfl ?_
  refine v_iald (pc := 31) dWe_root_31 hf (fun i4 hf => ?_)
  refine v_bipush (pc := 32) (8:Int32) dWe_root_32 rfl ?_
  refine v_imul (pc := 34) dWe_root_34 ?_
  refine v_iload_n (i := 2) (pc := 35) dWe_root_35 rfl rfl ?_
  refine v_iadd (pc := 36) dWe_root_36 ?_
  refine v_lald (pc := 37) dWe_root_37 hf (fun j5 hf => ?_)
  refine v_lstore (pc := 38) (ls' := [some (.ref a_0), some (.int i_1), some (.int i_2), some (.int ((i_1 * (8:Int32)) + i_2)), some (.long j5), none]) dWe_root_38 (by decide) rfl ?_
  refine v_aload_n (i := 0) (pc := 40) dWe_root_40 rfl rfl ?_
  refine v_getR (pc := 41) fgWe_9 dWe_root_41 hf (fun a6 hf => ?_)
  refine v_iload_n (i := 3) (pc := 44) dWe_root_44 rfl rfl ?_
  refine v_aload_n (i := 0) (pc := 45) dWe_root_45 rfl rfl ?_
  refine v_getR (pc := 46) fgWe_18 dWe_root_46 hf (fun a7 hf => ?_)
  refine v_lload (pc := 49) dWe_root_49 rfl ?_
  refine v_aload_n (i := 0) (pc := 51) dWe_root_51 rfl rfl ?_
  refine v_getR (pc := 52) fgWe_15 dWe_root_52 hf (fun a8 hf => ?_)
  refine v_aload_n (i := 0) (pc := 55) dWe_root_55 rfl rfl ?_
  refine v_getR (pc := 56) fgWe_22 dWe_root_56 hf (fun a9 hf => ?_)
  refine v_getR (pc := 59) fgWe_62 dWe_root_59 hf (fun a10 hf => ?_)
  refine v_iload_n (i := 1) (pc := 62) dWe_root_62 rfl rfl ?_
  refine v_iald (pc := 63) dWe_root_63 hf (fun i11 hf => ?_)
  refine v_bipush (pc := 64) (8:Int32) dWe_root_64 rfl ?_
  refine v_imul (pc := 66) dWe_root_66 ?_
  refine v_iload_n (i := 2) (pc := 67) dWe_root_67 rfl rfl ?_
  refine v_iadd (pc := 68) dWe_root_68 ?_
  refine v_lald (pc := 69) dWe_root_69 hf (fun j12 hf => ?_)
  obtain ⟨u17, cu17, hf⟩ := bnd hf
  obtain ⟨h13, j14, e16, hf⟩ := bndp hf
  refine v_M1 (pc := 70) (As := [.long j5, .long j12]) (rest := [.int ((i_1 * (8:Int32)) + i_2), .ref a6]) lmWe_40 cu17 (sMo_times e16) ⟨Nat.le_of_ble_eq_true rfl, Nat.le_of_ble_eq_true rfl, Nat.le_of_ble_eq_true rfl, Nat.le_of_ble_eq_true rfl⟩ dWe_root_70 rfl rfl (Nat.le_of_ble_eq_true rfl) ?_
  refine v_last (pc := 73) dWe_root_73 hf (fun h15 hf => ?_)
  exact v_vret (pc := 74) dWe_root_74 (by decide) (by decide) hf
abbrev rmSg_b : Room := { frames := 0, cells := 0, slots := 0, locals := 0 }
def fSg_b (h : MH) (a_0 : Nat) (i_1 : Int32) : Option (MH × Int64) := ((gfR h a_0 [7] 1).bind fun a1 => ((gfI h a_0 [7] 0).bind fun i2 => ((gfI h a_0 [7] 0).bind fun i3 => ((rdI h a1 ((i2 * i3) + i_1)).bind fun i4 => (some (h, i4.toInt64))))))
set_option maxRecDepth 20000 in
set_option maxHeartbeats 4000000 in
theorem sSg_b {g : Gh} {h' : MH} {r' : Int64} {h : MH} {a_0 : Nat} {i_1 : Int32} (hf : fSg_b h a_0 i_1 = some (h', r')) : Sp g ySg_b cSg_b 2 (some .long) rmSg_b h [.ref a_0, .int i_1] h' (some (.long r')) := by
  refine sp_of (by decide) (Nat.le_of_ble_eq_true rfl) ?_
  change V g ySg_b cSg_b 2 (some .long) rmSg_b (ZQ g rmSg_b h' (some (.long r'))) 0 0 h 0 [some (.ref a_0), some (.int i_1)] []
  unfold fSg_b at hf
  refine v_aload_n (i := 0) (pc := 0) dSg_b_0 rfl rfl ?_
  refine v_getR (pc := 1) fgSg_21 dSg_b_1 hf (fun a1 hf => ?_)
  refine v_aload_n (i := 0) (pc := 4) dSg_b_4 rfl rfl ?_
  refine v_getI (pc := 5) fgSg_15 dSg_b_5 hf (fun i2 hf => ?_)
  refine v_aload_n (i := 0) (pc := 8) dSg_b_8 rfl rfl ?_
  refine v_getI (pc := 9) fgSg_15 dSg_b_9 hf (fun i3 hf => ?_)
  refine v_imul (pc := 12) dSg_b_12 ?_
  refine v_iload_n (i := 1) (pc := 13) dSg_b_13 rfl rfl ?_
  refine v_iadd (pc := 14) dSg_b_14 ?_
  refine v_iald (pc := 15) dSg_b_15 hf (fun i4 hf => ?_)
  refine v_i2l (pc := 16) dSg_b_16 ?_
  exact v_lret (pc := 17) dSg_b_17 (by decide) (by decide) hf
abbrev rmMo_plus : Room := { frames := 0, cells := 0, slots := 0, locals := 0 }
def fMo_plus (h : MH) (a_0 : Nat) (j_1 : Int64) (j_2 : Int64) : Option (MH × Int64) := ((gfL h a_0 [3] 0).bind fun j1 => (nzL j1 (some (h, (lrm (j_1 + j_2) j1)))))
set_option maxRecDepth 20000 in
set_option maxHeartbeats 4000000 in
theorem sMo_plus {g : Gh} {h' : MH} {r' : Int64} {h : MH} {a_0 : Nat} {j_1 : Int64} {j_2 : Int64} (hf : fMo_plus h a_0 j_1 j_2 = some (h', r')) : Sp g yMo_plus cMo_plus 5 (some .long) rmMo_plus h [.ref a_0, .long j_1, .long j_2] h' (some (.long r')) := by
  refine sp_of (by decide) (Nat.le_of_ble_eq_true rfl) ?_
  change V g yMo_plus cMo_plus 5 (some .long) rmMo_plus (ZQ g rmMo_plus h' (some (.long r'))) 0 0 h 0 [some (.ref a_0), some (.long j_1), none, some (.long j_2), none] []
  unfold fMo_plus at hf
  refine v_lload_n (i := 1) (pc := 0) dMo_plus_0 rfl rfl ?_
  refine v_lload_n (i := 3) (pc := 1) dMo_plus_1 rfl rfl ?_
  refine v_ladd (pc := 2) dMo_plus_2 ?_
  refine v_aload_n (i := 0) (pc := 3) dMo_plus_3 rfl rfl ?_
  refine v_getL (pc := 4) fgMo_15 dMo_plus_4 hf (fun j1 hf => ?_)
  obtain ⟨z2, hf⟩ := nzL_of hf
  refine v_lrem (pc := 7) dMo_plus_7 z2 ?_
  exact v_lret (pc := 8) dMo_plus_8 (by decide) (by decide) hf
abbrev rmSg_a : Room := { frames := 0, cells := 0, slots := 0, locals := 0 }
def fSg_a (h : MH) (a_0 : Nat) (i_1 : Int32) (i_2 : Int32) : Option (MH × Int64) := ((gfR h a_0 [7] 1).bind fun a1 => ((gfI h a_0 [7] 0).bind fun i2 => ((rdI h a1 ((i_1 * i2) + i_2)).bind fun i3 => (some (h, i3.toInt64)))))
set_option maxRecDepth 20000 in
set_option maxHeartbeats 4000000 in
theorem sSg_a {g : Gh} {h' : MH} {r' : Int64} {h : MH} {a_0 : Nat} {i_1 : Int32} {i_2 : Int32} (hf : fSg_a h a_0 i_1 i_2 = some (h', r')) : Sp g ySg_a cSg_a 3 (some .long) rmSg_a h [.ref a_0, .int i_1, .int i_2] h' (some (.long r')) := by
  refine sp_of (by decide) (Nat.le_of_ble_eq_true rfl) ?_
  change V g ySg_a cSg_a 3 (some .long) rmSg_a (ZQ g rmSg_a h' (some (.long r'))) 0 0 h 0 [some (.ref a_0), some (.int i_1), some (.int i_2)] []
  unfold fSg_a at hf
  refine v_aload_n (i := 0) (pc := 0) dSg_a_0 rfl rfl ?_
  refine v_getR (pc := 1) fgSg_21 dSg_a_1 hf (fun a1 hf => ?_)
  refine v_iload_n (i := 1) (pc := 4) dSg_a_4 rfl rfl ?_
  refine v_aload_n (i := 0) (pc := 5) dSg_a_5 rfl rfl ?_
  refine v_getI (pc := 6) fgSg_15 dSg_a_6 hf (fun i2 hf => ?_)
  refine v_imul (pc := 9) dSg_a_9 ?_
  refine v_iload_n (i := 2) (pc := 10) dSg_a_10 rfl rfl ?_
  refine v_iadd (pc := 11) dSg_a_11 ?_
  refine v_iald (pc := 12) dSg_a_12 hf (fun i3 hf => ?_)
  refine v_i2l (pc := 13) dSg_a_13 ?_
  exact v_lret (pc := 14) dSg_a_14 (by decide) (by decide) hf
abbrev rmWe_hangUp : Room := { frames := 1, cells := 0, slots := 0, locals := 24 }
def bWe_hangUp_23 (k8 : (MH × Nat × Nat × Int32 × Int32) → Option MH) (n : Nat) (k23 : (MH × Nat × Nat × Int32 × Int32 × Int64 × Int32) → Option MH) (h : MH) (x0 : Nat) (x2 : Nat) (x3 : Int32) (x4 : Int32) (x5 : Int64) (x7 : Int32) : Option MH := ((gfI h x2 [7] 0).bind fun i1 => (if i1 ≤ x7 then ((gfR h x0 [10] 3).bind fun a2 => ((wrL h a2 (x3 + x4) x5).bind fun h3 => (k8 (h3, x0, x2, x3, (x4 + (1:Int32)))))) else ((gfR h x0 [10] 0).bind fun a4 => ((gfR h x0 [10] 0).bind fun a5 => ((chk h x2 7).bind fun _ => (bnd2 (fSg_a h x2 x4 x7) fun h6 j7 => ((gfR h6 x0 [10] 2).bind fun a8 => ((rdL h6 a8 (x3 + x7)).bind fun j9 => ((chk h6 a5 3).bind fun _ => (bnd2 (fMo_times h6 a5 j7 j9) fun h10 j11 => ((chk h10 a4 3).bind fun _ => (bnd2 (fMo_plus h10 a4 x5 j11) fun h12 j13 => (k23 (h12, x0, x2, x3, x4, j13, (x7 + (1:Int32))))))))))))))))
def fWe_hangUp_23 (k8 : (MH × Nat × Nat × Int32 × Int32) → Option MH) (n : Nat) (h : MH) (x0 : Nat) (x2 : Nat) (x3 : Int32) (x4 : Int32) (x5 : Int64) (x7 : Int32) : Option MH := lp (fun n k s => bWe_hangUp_23 k8 n k s.1 s.2.1 s.2.2.1 s.2.2.2.1 s.2.2.2.2.1 s.2.2.2.2.2.1 s.2.2.2.2.2.2) n (h, x0, x2, x3, x4, x5, x7)
set_option maxRecDepth 20000 in
set_option maxHeartbeats 4000000 in
theorem tWe_hangUp_23 {g : Gh} {h' : MH} {k8 : (MH × Nat × Nat × Int32 × Int32) → Option MH} (hk8 : ∀ (h : MH) (x0 : Nat) (x2 : Nat) (x3 : Int32) (x4 : Int32), k8 (h, x0, x2, x3, x4) = some h' → V g yWe_hangUp cWe_hangUp 8 none rmWe_hangUp (ZQ g rmWe_hangUp h' none) 0 0 h 8 [some (.ref x0), none, some (.ref x2), some (.int x3), some (.int x4), none, none, none] []) (n : Nat) (h : MH) (x0 : Nat) (x2 : Nat) (x3 : Int32) (x4 : Int32) (x5 : Int64) (x7 : Int32) (hf : fWe_hangUp_23 k8 n h x0 x2 x3 x4 x5 x7 = some h') : V g yWe_hangUp cWe_hangUp 8 none rmWe_hangUp (ZQ g rmWe_hangUp h' none) 0 0 h 23 [some (.ref x0), none, some (.ref x2), some (.int x3), some (.int x4), some (.long x5), none, some (.int x7)] [] := by
  unfold fWe_hangUp_23 at hf
  refine lp_ind (P := fun s => V g yWe_hangUp cWe_hangUp 8 none rmWe_hangUp (ZQ g rmWe_hangUp h' none) 0 0 s.1 23 [some (.ref s.2.1), none, some (.ref s.2.2.1), some (.int s.2.2.2.1), some (.int s.2.2.2.2.1), some (.long s.2.2.2.2.2.1), none, some (.int s.2.2.2.2.2.2)] []) (fun n k23 hk23 s hf => ?_) n (h, x0, x2, x3, x4, x5, x7) hf
  obtain ⟨h, x0, x2, x3, x4, x5, x7⟩ := s
  replace hk23 : ∀ (h : MH) (x0 : Nat) (x2 : Nat) (x3 : Int32) (x4 : Int32) (x5 : Int64) (x7 : Int32), k23 (h, x0, x2, x3, x4, x5, x7) = some h' → V g yWe_hangUp cWe_hangUp 8 none rmWe_hangUp (ZQ g rmWe_hangUp h' none) 0 0 h 23 [some (.ref x0), none, some (.ref x2), some (.int x3), some (.int x4), some (.long x5), none, some (.int x7)] [] := fun h x0 x2 x3 x4 x5 x7 => hk23 (h, x0, x2, x3, x4, x5, x7)
  replace hf : bWe_hangUp_23 k8 n k23 h x0 x2 x3 x4 x5 x7 = some h' := hf
  change V g yWe_hangUp cWe_hangUp 8 none rmWe_hangUp (ZQ g rmWe_hangUp h' none) 0 0 h 23 [some (.ref x0), none, some (.ref x2), some (.int x3), some (.int x4), some (.long x5), none, some (.int x7)] []
  unfold bWe_hangUp_23 at hf
  refine v_iload (pc := 23) dWe_hangUp_23 rfl ?_
  refine v_aload_n (i := 2) (pc := 25) dWe_hangUp_25 rfl rfl ?_
  refine v_getI (pc := 26) fgWe_26 dWe_hangUp_26 hf (fun i1 hf => ?_)
  refine v_icmp_ge (pc := 29) (tgt := 73) dWe_hangUp_29 rfl hf (fun hf => ?_) (fun hf => ?_)
  · refine v_aload_n (i := 0) (pc := 73) dWe_hangUp_73 rfl rfl ?_
    refine v_getR (pc := 74) fgWe_15 dWe_hangUp_74 hf (fun a2 hf => ?_)
    refine v_iload_n (i := 3) (pc := 77) dWe_hangUp_77 rfl rfl ?_
    refine v_iload (pc := 78) dWe_hangUp_78 rfl ?_
    refine v_iadd (pc := 80) dWe_hangUp_80 ?_
    refine v_lload (pc := 81) dWe_hangUp_81 rfl ?_
    refine v_last (pc := 83) dWe_hangUp_83 hf (fun h3 hf => ?_)
    refine v_iinc (pc := 84) (v := (x4 + (1:Int32))) (ls' := [some (.ref x0), none, some (.ref x2), some (.int x3), some (.int (x4 + (1:Int32))), some (.long x5), none, some (.int x7)]) dWe_hangUp_84 rfl rfl (by decide) rfl ?_
    refine v_goto (pc := 87) (tgt := 8) dWe_hangUp_87 rfl ?_
    refine v_wk (ls' := [some (.ref x0), none, some (.ref x2), some (.int x3), some (.int (x4 + (1:Int32))), none, none, none]) ⟨rfl, rfl, rfl, rfl, trivial⟩ ?_
    exact hk8 h3 x0 x2 x3 (x4 + (1:Int32)) hf
  refine v_aload_n (i := 0) (pc := 32) dWe_hangUp_32 rfl rfl ?_
  refine v_getR (pc := 33) fgWe_18 dWe_hangUp_33 hf (fun a4 hf => ?_)
  refine v_lload (pc := 36) dWe_hangUp_36 rfl ?_
  refine v_aload_n (i := 0) (pc := 38) dWe_hangUp_38 rfl rfl ?_
  refine v_getR (pc := 39) fgWe_18 dWe_hangUp_39 hf (fun a5 hf => ?_)
  refine v_aload_n (i := 2) (pc := 42) dWe_hangUp_42 rfl rfl ?_
  refine v_iload (pc := 43) dWe_hangUp_43 rfl ?_
  refine v_iload (pc := 45) dWe_hangUp_45 rfl ?_
  obtain ⟨u19, cu19, hf⟩ := bnd hf
  obtain ⟨h6, j7, e18, hf⟩ := bndp hf
  refine v_M1 (pc := 47) (As := [.int x4, .int x7]) (rest := [.ref a5, .long x5, .ref a4]) lmWe_65 cu19 (sSg_a e18) ⟨Nat.le_of_ble_eq_true rfl, Nat.le_of_ble_eq_true rfl, Nat.le_of_ble_eq_true rfl, Nat.le_of_ble_eq_true rfl⟩ dWe_hangUp_47 rfl rfl (Nat.le_of_ble_eq_true rfl) ?_
  refine v_aload_n (i := 0) (pc := 50) dWe_hangUp_50 rfl rfl ?_
  refine v_getR (pc := 51) fgWe_9 dWe_hangUp_51 hf (fun a8 hf => ?_)
  refine v_iload_n (i := 3) (pc := 54) dWe_hangUp_54 rfl rfl ?_
  refine v_iload (pc := 55) dWe_hangUp_55 rfl ?_
  refine v_iadd (pc := 57) dWe_hangUp_57 ?_
  refine v_lald (pc := 58) dWe_hangUp_58 hf (fun j9 hf => ?_)
  obtain ⟨u17, cu17, hf⟩ := bnd hf
  obtain ⟨h10, j11, e16, hf⟩ := bndp hf
  refine v_M1 (pc := 59) (As := [.long j7, .long j9]) (rest := [.long x5, .ref a4]) lmWe_40 cu17 (sMo_times e16) ⟨Nat.le_of_ble_eq_true rfl, Nat.le_of_ble_eq_true rfl, Nat.le_of_ble_eq_true rfl, Nat.le_of_ble_eq_true rfl⟩ dWe_hangUp_59 rfl rfl (Nat.le_of_ble_eq_true rfl) ?_
  obtain ⟨u15, cu15, hf⟩ := bnd hf
  obtain ⟨h12, j13, e14, hf⟩ := bndp hf
  refine v_M1 (pc := 62) (As := [.long x5, .long j11]) (rest := []) lmWe_46 cu15 (sMo_plus e14) ⟨Nat.le_of_ble_eq_true rfl, Nat.le_of_ble_eq_true rfl, Nat.le_of_ble_eq_true rfl, Nat.le_of_ble_eq_true rfl⟩ dWe_hangUp_62 rfl rfl (Nat.le_of_ble_eq_true rfl) ?_
  refine v_lstore (pc := 65) (ls' := [some (.ref x0), none, some (.ref x2), some (.int x3), some (.int x4), some (.long j13), none, some (.int x7)]) dWe_hangUp_65 (by decide) rfl ?_
  refine v_iinc (pc := 67) (v := (x7 + (1:Int32))) (ls' := [some (.ref x0), none, some (.ref x2), some (.int x3), some (.int x4), some (.long j13), none, some (.int (x7 + (1:Int32)))]) dWe_hangUp_67 rfl rfl (by decide) rfl ?_
  refine v_goto (pc := 70) (tgt := 23) dWe_hangUp_70 rfl ?_
  refine v_wk (ls' := [some (.ref x0), none, some (.ref x2), some (.int x3), some (.int x4), some (.long j13), none, some (.int (x7 + (1:Int32)))]) ⟨rfl, rfl, rfl, rfl, rfl, rfl, trivial⟩ ?_
  exact hk23 h12 x0 x2 x3 x4 j13 (x7 + (1:Int32)) hf
def bWe_hangUp_8 (n : Nat) (k8 : (MH × Nat × Nat × Int32 × Int32) → Option MH) (h : MH) (x0 : Nat) (x2 : Nat) (x3 : Int32) (x4 : Int32) : Option MH := ((gfI h x2 [7] 0).bind fun i1 => (if i1 ≤ x4 then (some h) else (fWe_hangUp_23 k8 n h x0 x2 x3 x4 (0:Int64) (0:Int32))))
def fWe_hangUp_8 (n : Nat) (h : MH) (x0 : Nat) (x2 : Nat) (x3 : Int32) (x4 : Int32) : Option MH := lp (fun n k s => bWe_hangUp_8 n k s.1 s.2.1 s.2.2.1 s.2.2.2.1 s.2.2.2.2) n (h, x0, x2, x3, x4)
set_option maxRecDepth 20000 in
set_option maxHeartbeats 4000000 in
theorem tWe_hangUp_8 {g : Gh} {h' : MH} (n : Nat) (h : MH) (x0 : Nat) (x2 : Nat) (x3 : Int32) (x4 : Int32) (hf : fWe_hangUp_8 n h x0 x2 x3 x4 = some h') : V g yWe_hangUp cWe_hangUp 8 none rmWe_hangUp (ZQ g rmWe_hangUp h' none) 0 0 h 8 [some (.ref x0), none, some (.ref x2), some (.int x3), some (.int x4), none, none, none] [] := by
  unfold fWe_hangUp_8 at hf
  refine lp_ind (P := fun s => V g yWe_hangUp cWe_hangUp 8 none rmWe_hangUp (ZQ g rmWe_hangUp h' none) 0 0 s.1 8 [some (.ref s.2.1), none, some (.ref s.2.2.1), some (.int s.2.2.2.1), some (.int s.2.2.2.2), none, none, none] []) (fun n k8 hk8 s hf => ?_) n (h, x0, x2, x3, x4) hf
  obtain ⟨h, x0, x2, x3, x4⟩ := s
  replace hk8 : ∀ (h : MH) (x0 : Nat) (x2 : Nat) (x3 : Int32) (x4 : Int32), k8 (h, x0, x2, x3, x4) = some h' → V g yWe_hangUp cWe_hangUp 8 none rmWe_hangUp (ZQ g rmWe_hangUp h' none) 0 0 h 8 [some (.ref x0), none, some (.ref x2), some (.int x3), some (.int x4), none, none, none] [] := fun h x0 x2 x3 x4 => hk8 (h, x0, x2, x3, x4)
  replace hf : bWe_hangUp_8 n k8 h x0 x2 x3 x4 = some h' := hf
  change V g yWe_hangUp cWe_hangUp 8 none rmWe_hangUp (ZQ g rmWe_hangUp h' none) 0 0 h 8 [some (.ref x0), none, some (.ref x2), some (.int x3), some (.int x4), none, none, none] []
  unfold bWe_hangUp_8 at hf
  refine v_iload (pc := 8) dWe_hangUp_8 rfl ?_
  refine v_aload_n (i := 2) (pc := 10) dWe_hangUp_10 rfl rfl ?_
  refine v_getI (pc := 11) fgWe_26 dWe_hangUp_11 hf (fun i1 hf => ?_)
  refine v_icmp_ge (pc := 14) (tgt := 90) dWe_hangUp_14 rfl hf (fun hf => ?_) (fun hf => ?_)
  · exact v_vret (pc := 90) dWe_hangUp_90 (by decide) (by decide) hf
  refine v_lconst (pc := 17) (0:Int64) dWe_hangUp_17 rfl ?_
  refine v_lstore (pc := 18) (ls' := [some (.ref x0), none, some (.ref x2), some (.int x3), some (.int x4), some (.long (0:Int64)), none, none]) dWe_hangUp_18 (by decide) rfl ?_
  refine v_iconst (pc := 20) (0:Int32) dWe_hangUp_20 rfl ?_
  refine v_istore (pc := 21) (ls' := [some (.ref x0), none, some (.ref x2), some (.int x3), some (.int x4), some (.long (0:Int64)), none, some (.int (0:Int32))]) dWe_hangUp_21 (by decide) rfl ?_
  refine v_wk (ls' := [some (.ref x0), none, some (.ref x2), some (.int x3), some (.int x4), some (.long (0:Int64)), none, some (.int (0:Int32))]) ⟨rfl, rfl, rfl, rfl, rfl, rfl, trivial⟩ ?_
  exact tWe_hangUp_23 hk8 n h x0 x2 x3 x4 (0:Int64) (0:Int32) hf
def fWe_hangUp (n : Nat) (h : MH) (a_0 : Nat) (i_1 : Int32) (a_2 : Nat) : Option MH := (fWe_hangUp_8 n h a_0 a_2 (i_1 * (8:Int32)) (0:Int32))
set_option maxRecDepth 20000 in
set_option maxHeartbeats 4000000 in
theorem sWe_hangUp {g : Gh} {h' : MH} {n : Nat} {h : MH} {a_0 : Nat} {i_1 : Int32} {a_2 : Nat} (hf : fWe_hangUp n h a_0 i_1 a_2 = some h') : Sp g yWe_hangUp cWe_hangUp 8 none rmWe_hangUp h [.ref a_0, .int i_1, .ref a_2] h' none := by
  refine sp_of (by decide) (Nat.le_of_ble_eq_true rfl) ?_
  change V g yWe_hangUp cWe_hangUp 8 none rmWe_hangUp (ZQ g rmWe_hangUp h' none) 0 0 h 0 [some (.ref a_0), some (.int i_1), some (.ref a_2), none, none, none, none, none] []
  unfold fWe_hangUp at hf
  refine v_iload_n (i := 1) (pc := 0) dWe_hangUp_0 rfl rfl ?_
  refine v_bipush (pc := 1) (8:Int32) dWe_hangUp_1 rfl ?_
  refine v_imul (pc := 3) dWe_hangUp_3 ?_
  refine v_istore_n (i := 3) (pc := 4) (ls' := [some (.ref a_0), some (.int i_1), some (.ref a_2), some (.int (i_1 * (8:Int32))), none, none, none, none]) dWe_hangUp_4 rfl (by decide) rfl ?_
  refine v_iconst (pc := 5) (0:Int32) dWe_hangUp_5 rfl ?_
  refine v_istore (pc := 6) (ls' := [some (.ref a_0), some (.int i_1), some (.ref a_2), some (.int (i_1 * (8:Int32))), some (.int (0:Int32)), none, none, none]) dWe_hangUp_6 (by decide) rfl ?_
  refine v_wk (ls' := [some (.ref a_0), none, some (.ref a_2), some (.int (i_1 * (8:Int32))), some (.int (0:Int32)), none, none, none]) ⟨rfl, rfl, rfl, rfl, trivial⟩ ?_
  exact tWe_hangUp_8 n h a_0 a_2 (i_1 * (8:Int32)) (0:Int32) hf
abbrev rmWe_weights : Room := { frames := 2, cells := 1, slots := 37, locals := 51 }
def fWe_weights_103 (k7 : (MH × Nat × Nat × Nat × Int32) → Option (MH × Nat)) (n : Nat) (h : MH) (x0 : Nat) (x1 : Nat) (x2 : Nat) (x3 : Int32) : Option (MH × Nat) := (k7 (h, x0, x1, x2, (x3 + (1:Int32))))
set_option maxRecDepth 20000 in
set_option maxHeartbeats 4000000 in
theorem tWe_weights_103 {g : Gh} {h' : MH} {r' : Nat} {k7 : (MH × Nat × Nat × Nat × Int32) → Option (MH × Nat)} (hk7 : ∀ (h : MH) (x0 : Nat) (x1 : Nat) (x2 : Nat) (x3 : Int32), k7 (h, x0, x1, x2, x3) = some (h', r') → V g yWe_weights cWe_weights 7 (some (.array .int)) rmWe_weights (ZQ g rmWe_weights h' (some (.ref r'))) 1 37 h 7 [some (.ref x0), some (.ref x1), some (.ref x2), some (.int x3), none, none, none] []) (n : Nat) (h : MH) (x0 : Nat) (x1 : Nat) (x2 : Nat) (x3 : Int32) (hf : fWe_weights_103 k7 n h x0 x1 x2 x3 = some (h', r')) : V g yWe_weights cWe_weights 7 (some (.array .int)) rmWe_weights (ZQ g rmWe_weights h' (some (.ref r'))) 1 37 h 103 [some (.ref x0), some (.ref x1), some (.ref x2), some (.int x3), none, none, none] [] := by
  unfold fWe_weights_103 at hf
  refine v_iinc (pc := 103) (v := (x3 + (1:Int32))) (ls' := [some (.ref x0), some (.ref x1), some (.ref x2), some (.int (x3 + (1:Int32))), none, none, none]) dWe_weights_103 rfl rfl (by decide) rfl ?_
  refine v_goto (pc := 106) (tgt := 7) dWe_weights_106 rfl ?_
  refine v_wk (ls' := [some (.ref x0), some (.ref x1), some (.ref x2), some (.int (x3 + (1:Int32))), none, none, none]) ⟨rfl, rfl, rfl, rfl, trivial⟩ ?_
  exact hk7 h x0 x1 x2 (x3 + (1:Int32)) hf
def bWe_weights_19 (k7 : (MH × Nat × Nat × Nat × Int32) → Option (MH × Nat)) (n : Nat) (k19 : (MH × Nat × Nat × Nat × Int32 × Int64 × Int32) → Option (MH × Nat)) (h : MH) (x0 : Nat) (x1 : Nat) (x2 : Nat) (x3 : Int32) (x4 : Int64) (x6 : Int32) : Option (MH × Nat) := ((gfI h x1 [7] 0).bind fun i1 => (if i1 ≤ x6 then ((wrI h x2 x3 x4.toInt32).bind fun h2 => ((gfR h2 x0 [10] 1).bind fun a3 => ((gfR h2 a3 [0] 1).bind fun a4 => ((rdI h2 a4 x3).bind fun i5 => (if (6:Int32) ≤ i5 then (fWe_weights_103 k7 n h2 x0 x1 x2 x3) else ((chk h2 x0 10).bind fun _ => ((fWe_hangUp n h2 x0 x3 x1).bind fun h6 => (fWe_weights_103 k7 n h6 x0 x1 x2 x3)))))))) else ((chk h x0 10).bind fun _ => ((fWe_root h x0 x3 x6).bind fun h9 => ((gfR h9 x0 [10] 0).bind fun a10 => ((gfR h9 x0 [10] 0).bind fun a11 => ((chk h9 x1 7).bind fun _ => (bnd2 (fSg_b h9 x1 x6) fun h12 j13 => ((gfR h12 x0 [10] 2).bind fun a14 => ((rdL h12 a14 ((x3 * (8:Int32)) + x6)).bind fun j15 => ((chk h12 a11 3).bind fun _ => (bnd2 (fMo_times h12 a11 j13 j15) fun h16 j17 => ((chk h16 a10 3).bind fun _ => (bnd2 (fMo_plus h16 a10 x4 j17) fun h18 j19 => (k19 (h18, x0, x1, x2, x3, j19, (x6 + (1:Int32))))))))))))))))))
def fWe_weights_19 (k7 : (MH × Nat × Nat × Nat × Int32) → Option (MH × Nat)) (n : Nat) (h : MH) (x0 : Nat) (x1 : Nat) (x2 : Nat) (x3 : Int32) (x4 : Int64) (x6 : Int32) : Option (MH × Nat) := lp (fun n k s => bWe_weights_19 k7 n k s.1 s.2.1 s.2.2.1 s.2.2.2.1 s.2.2.2.2.1 s.2.2.2.2.2.1 s.2.2.2.2.2.2) n (h, x0, x1, x2, x3, x4, x6)
set_option maxRecDepth 20000 in
set_option maxHeartbeats 4000000 in
theorem tWe_weights_19 {g : Gh} {h' : MH} {r' : Nat} {k7 : (MH × Nat × Nat × Nat × Int32) → Option (MH × Nat)} (hk7 : ∀ (h : MH) (x0 : Nat) (x1 : Nat) (x2 : Nat) (x3 : Int32), k7 (h, x0, x1, x2, x3) = some (h', r') → V g yWe_weights cWe_weights 7 (some (.array .int)) rmWe_weights (ZQ g rmWe_weights h' (some (.ref r'))) 1 37 h 7 [some (.ref x0), some (.ref x1), some (.ref x2), some (.int x3), none, none, none] []) (n : Nat) (h : MH) (x0 : Nat) (x1 : Nat) (x2 : Nat) (x3 : Int32) (x4 : Int64) (x6 : Int32) (hf : fWe_weights_19 k7 n h x0 x1 x2 x3 x4 x6 = some (h', r')) : V g yWe_weights cWe_weights 7 (some (.array .int)) rmWe_weights (ZQ g rmWe_weights h' (some (.ref r'))) 1 37 h 19 [some (.ref x0), some (.ref x1), some (.ref x2), some (.int x3), some (.long x4), none, some (.int x6)] [] := by
  unfold fWe_weights_19 at hf
  refine lp_ind (P := fun s => V g yWe_weights cWe_weights 7 (some (.array .int)) rmWe_weights (ZQ g rmWe_weights h' (some (.ref r'))) 1 37 s.1 19 [some (.ref s.2.1), some (.ref s.2.2.1), some (.ref s.2.2.2.1), some (.int s.2.2.2.2.1), some (.long s.2.2.2.2.2.1), none, some (.int s.2.2.2.2.2.2)] []) (fun n k19 hk19 s hf => ?_) n (h, x0, x1, x2, x3, x4, x6) hf
  obtain ⟨h, x0, x1, x2, x3, x4, x6⟩ := s
  replace hk19 : ∀ (h : MH) (x0 : Nat) (x1 : Nat) (x2 : Nat) (x3 : Int32) (x4 : Int64) (x6 : Int32), k19 (h, x0, x1, x2, x3, x4, x6) = some (h', r') → V g yWe_weights cWe_weights 7 (some (.array .int)) rmWe_weights (ZQ g rmWe_weights h' (some (.ref r'))) 1 37 h 19 [some (.ref x0), some (.ref x1), some (.ref x2), some (.int x3), some (.long x4), none, some (.int x6)] [] := fun h x0 x1 x2 x3 x4 x6 => hk19 (h, x0, x1, x2, x3, x4, x6)
  replace hf : bWe_weights_19 k7 n k19 h x0 x1 x2 x3 x4 x6 = some (h', r') := hf
  change V g yWe_weights cWe_weights 7 (some (.array .int)) rmWe_weights (ZQ g rmWe_weights h' (some (.ref r'))) 1 37 h 19 [some (.ref x0), some (.ref x1), some (.ref x2), some (.int x3), some (.long x4), none, some (.int x6)] []
  unfold bWe_weights_19 at hf
  refine v_iload (pc := 19) dWe_weights_19 rfl ?_
  refine v_aload_n (i := 1) (pc := 21) dWe_weights_21 rfl rfl ?_
  refine v_getI (pc := 22) fgWe_26 dWe_weights_22 hf (fun i1 hf => ?_)
  refine v_icmp_ge (pc := 25) (tgt := 77) dWe_weights_25 rfl hf (fun hf => ?_) (fun hf => ?_)
  · refine v_aload_n (i := 2) (pc := 77) dWe_weights_77 rfl rfl ?_
    refine v_iload_n (i := 3) (pc := 78) dWe_weights_78 rfl rfl ?_
    refine v_lload (pc := 79) dWe_weights_79 rfl ?_
    refine v_l2i (pc := 81) dWe_weights_81 ?_
    refine v_iast (pc := 82) dWe_weights_82 hf (fun h2 hf => ?_)
    refine v_aload_n (i := 0) (pc := 83) dWe_weights_83 rfl rfl ?_
    refine v_getR (pc := 84) fgWe_22 dWe_weights_84 hf (fun a3 hf => ?_)
    refine v_getR (pc := 87) fgWe_49 dWe_weights_87 hf (fun a4 hf => ?_)
    refine v_iload_n (i := 3) (pc := 90) dWe_weights_90 rfl rfl ?_
    refine v_iald (pc := 91) dWe_weights_91 hf (fun i5 hf => ?_)
    refine v_bipush (pc := 92) (6:Int32) dWe_weights_92 rfl ?_
    refine v_icmp_ge (pc := 94) (tgt := 103) dWe_weights_94 rfl hf (fun hf => ?_) (fun hf => ?_)
    · refine v_wk (ls' := [some (.ref x0), some (.ref x1), some (.ref x2), some (.int x3), none, none, none]) ⟨rfl, rfl, rfl, rfl, trivial⟩ ?_
      exact tWe_weights_103 hk7 n h2 x0 x1 x2 x3 hf
    refine v_aload_n (i := 0) (pc := 97) dWe_weights_97 rfl rfl ?_
    refine v_iload_n (i := 3) (pc := 98) dWe_weights_98 rfl rfl ?_
    refine v_aload_n (i := 1) (pc := 99) dWe_weights_99 rfl rfl ?_
    obtain ⟨u8, cu8, hf⟩ := bnd hf
    obtain ⟨h6, e7, hf⟩ := bnd hf
    refine v_M0 (pc := 100) (As := [.int x3, .ref x1]) (rest := []) lmWe_55 cu8 (sWe_hangUp e7) ⟨Nat.le_of_ble_eq_true rfl, Nat.le_of_ble_eq_true rfl, Nat.le_of_ble_eq_true rfl, Nat.le_of_ble_eq_true rfl⟩ dWe_weights_100 rfl rfl (Nat.le_of_ble_eq_true rfl) ?_
    refine v_wk (ls' := [some (.ref x0), some (.ref x1), some (.ref x2), some (.int x3), none, none, none]) ⟨rfl, rfl, rfl, rfl, trivial⟩ ?_
    exact tWe_weights_103 hk7 n h6 x0 x1 x2 x3 hf
  refine v_aload_n (i := 0) (pc := 28) dWe_weights_28 rfl rfl ?_
  refine v_iload_n (i := 3) (pc := 29) dWe_weights_29 rfl rfl ?_
  refine v_iload (pc := 30) dWe_weights_30 rfl ?_
  obtain ⟨u27, cu27, hf⟩ := bnd hf
  obtain ⟨h9, e26, hf⟩ := bnd hf
  refine v_M0 (pc := 32) (As := [.int x3, .int x6]) (rest := []) lmWe_32 cu27 (sWe_root e26) ⟨Nat.le_of_ble_eq_true rfl, Nat.le_of_ble_eq_true rfl, Nat.le_of_ble_eq_true rfl, Nat.le_of_ble_eq_true rfl⟩ dWe_weights_32 rfl rfl (Nat.le_of_ble_eq_true rfl) ?_
  refine v_aload_n (i := 0) (pc := 35) dWe_weights_35 rfl rfl ?_
  refine v_getR (pc := 36) fgWe_18 dWe_weights_36 hf (fun a10 hf => ?_)
  refine v_lload (pc := 39) dWe_weights_39 rfl ?_
  refine v_aload_n (i := 0) (pc := 41) dWe_weights_41 rfl rfl ?_
  refine v_getR (pc := 42) fgWe_18 dWe_weights_42 hf (fun a11 hf => ?_)
  refine v_aload_n (i := 1) (pc := 45) dWe_weights_45 rfl rfl ?_
  refine v_iload (pc := 46) dWe_weights_46 rfl ?_
  obtain ⟨u25, cu25, hf⟩ := bnd hf
  obtain ⟨h12, j13, e24, hf⟩ := bndp hf
  refine v_M1 (pc := 48) (As := [.int x6]) (rest := [.ref a11, .long x4, .ref a10]) lmWe_36 cu25 (sSg_b e24) ⟨Nat.le_of_ble_eq_true rfl, Nat.le_of_ble_eq_true rfl, Nat.le_of_ble_eq_true rfl, Nat.le_of_ble_eq_true rfl⟩ dWe_weights_48 rfl rfl (Nat.le_of_ble_eq_true rfl) ?_
  refine v_aload_n (i := 0) (pc := 51) dWe_weights_51 rfl rfl ?_
  refine v_getR (pc := 52) fgWe_9 dWe_weights_52 hf (fun a14 hf => ?_)
  refine v_iload_n (i := 3) (pc := 55) dWe_weights_55 rfl rfl ?_
  refine v_bipush (pc := 56) (8:Int32) dWe_weights_56 rfl ?_
  refine v_imul (pc := 58) dWe_weights_58 ?_
  refine v_iload (pc := 59) dWe_weights_59 rfl ?_
  refine v_iadd (pc := 61) dWe_weights_61 ?_
  refine v_lald (pc := 62) dWe_weights_62 hf (fun j15 hf => ?_)
  obtain ⟨u23, cu23, hf⟩ := bnd hf
  obtain ⟨h16, j17, e22, hf⟩ := bndp hf
  refine v_M1 (pc := 63) (As := [.long j13, .long j15]) (rest := [.long x4, .ref a10]) lmWe_40 cu23 (sMo_times e22) ⟨Nat.le_of_ble_eq_true rfl, Nat.le_of_ble_eq_true rfl, Nat.le_of_ble_eq_true rfl, Nat.le_of_ble_eq_true rfl⟩ dWe_weights_63 rfl rfl (Nat.le_of_ble_eq_true rfl) ?_
  obtain ⟨u21, cu21, hf⟩ := bnd hf
  obtain ⟨h18, j19, e20, hf⟩ := bndp hf
  refine v_M1 (pc := 66) (As := [.long x4, .long j17]) (rest := []) lmWe_46 cu21 (sMo_plus e20) ⟨Nat.le_of_ble_eq_true rfl, Nat.le_of_ble_eq_true rfl, Nat.le_of_ble_eq_true rfl, Nat.le_of_ble_eq_true rfl⟩ dWe_weights_66 rfl rfl (Nat.le_of_ble_eq_true rfl) ?_
  refine v_lstore (pc := 69) (ls' := [some (.ref x0), some (.ref x1), some (.ref x2), some (.int x3), some (.long j19), none, some (.int x6)]) dWe_weights_69 (by decide) rfl ?_
  refine v_iinc (pc := 71) (v := (x6 + (1:Int32))) (ls' := [some (.ref x0), some (.ref x1), some (.ref x2), some (.int x3), some (.long j19), none, some (.int (x6 + (1:Int32)))]) dWe_weights_71 rfl rfl (by decide) rfl ?_
  refine v_goto (pc := 74) (tgt := 19) dWe_weights_74 rfl ?_
  refine v_wk (ls' := [some (.ref x0), some (.ref x1), some (.ref x2), some (.int x3), some (.long j19), none, some (.int (x6 + (1:Int32)))]) ⟨rfl, rfl, rfl, rfl, rfl, rfl, trivial⟩ ?_
  exact hk19 h18 x0 x1 x2 x3 j19 (x6 + (1:Int32)) hf
def bWe_weights_7 (n : Nat) (k7 : (MH × Nat × Nat × Nat × Int32) → Option (MH × Nat)) (h : MH) (x0 : Nat) (x1 : Nat) (x2 : Nat) (x3 : Int32) : Option (MH × Nat) := (if (37:Int32) ≤ x3 then (some (h, x2)) else (fWe_weights_19 k7 n h x0 x1 x2 x3 (0:Int64) (0:Int32)))
def fWe_weights_7 (n : Nat) (h : MH) (x0 : Nat) (x1 : Nat) (x2 : Nat) (x3 : Int32) : Option (MH × Nat) := lp (fun n k s => bWe_weights_7 n k s.1 s.2.1 s.2.2.1 s.2.2.2.1 s.2.2.2.2) n (h, x0, x1, x2, x3)
set_option maxRecDepth 20000 in
set_option maxHeartbeats 4000000 in
theorem tWe_weights_7 {g : Gh} {h' : MH} {r' : Nat} (n : Nat) (h : MH) (x0 : Nat) (x1 : Nat) (x2 : Nat) (x3 : Int32) (hf : fWe_weights_7 n h x0 x1 x2 x3 = some (h', r')) : V g yWe_weights cWe_weights 7 (some (.array .int)) rmWe_weights (ZQ g rmWe_weights h' (some (.ref r'))) 1 37 h 7 [some (.ref x0), some (.ref x1), some (.ref x2), some (.int x3), none, none, none] [] := by
  unfold fWe_weights_7 at hf
  refine lp_ind (P := fun s => V g yWe_weights cWe_weights 7 (some (.array .int)) rmWe_weights (ZQ g rmWe_weights h' (some (.ref r'))) 1 37 s.1 7 [some (.ref s.2.1), some (.ref s.2.2.1), some (.ref s.2.2.2.1), some (.int s.2.2.2.2), none, none, none] []) (fun n k7 hk7 s hf => ?_) n (h, x0, x1, x2, x3) hf
  obtain ⟨h, x0, x1, x2, x3⟩ := s
  replace hk7 : ∀ (h : MH) (x0 : Nat) (x1 : Nat) (x2 : Nat) (x3 : Int32), k7 (h, x0, x1, x2, x3) = some (h', r') → V g yWe_weights cWe_weights 7 (some (.array .int)) rmWe_weights (ZQ g rmWe_weights h' (some (.ref r'))) 1 37 h 7 [some (.ref x0), some (.ref x1), some (.ref x2), some (.int x3), none, none, none] [] := fun h x0 x1 x2 x3 => hk7 (h, x0, x1, x2, x3)
  replace hf : bWe_weights_7 n k7 h x0 x1 x2 x3 = some (h', r') := hf
  change V g yWe_weights cWe_weights 7 (some (.array .int)) rmWe_weights (ZQ g rmWe_weights h' (some (.ref r'))) 1 37 h 7 [some (.ref x0), some (.ref x1), some (.ref x2), some (.int x3), none, none, none] []
  unfold bWe_weights_7 at hf
  refine v_iload_n (i := 3) (pc := 7) dWe_weights_7 rfl rfl ?_
  refine v_bipush (pc := 8) (37:Int32) dWe_weights_8 rfl ?_
  refine v_icmp_ge (pc := 10) (tgt := 109) dWe_weights_10 rfl hf (fun hf => ?_) (fun hf => ?_)
  · refine v_aload_n (i := 2) (pc := 109) dWe_weights_109 rfl rfl ?_
    exact v_aret (pc := 110) dWe_weights_110 (Or.inr ⟨_, rfl⟩) (by decide) (by decide) hf
  refine v_lconst (pc := 13) (0:Int64) dWe_weights_13 rfl ?_
  refine v_lstore (pc := 14) (ls' := [some (.ref x0), some (.ref x1), some (.ref x2), some (.int x3), some (.long (0:Int64)), none, none]) dWe_weights_14 (by decide) rfl ?_
  refine v_iconst (pc := 16) (0:Int32) dWe_weights_16 rfl ?_
  refine v_istore (pc := 17) (ls' := [some (.ref x0), some (.ref x1), some (.ref x2), some (.int x3), some (.long (0:Int64)), none, some (.int (0:Int32))]) dWe_weights_17 (by decide) rfl ?_
  refine v_wk (ls' := [some (.ref x0), some (.ref x1), some (.ref x2), some (.int x3), some (.long (0:Int64)), none, some (.int (0:Int32))]) ⟨rfl, rfl, rfl, rfl, rfl, rfl, trivial⟩ ?_
  exact tWe_weights_19 hk7 n h x0 x1 x2 x3 (0:Int64) (0:Int32) hf
def fWe_weights (n : Nat) (h : MH) (a_0 : Nat) (a_1 : Nat) : Option (MH × Nat) := (naI h (37:Int32) 37 fun h1 a2 => (fWe_weights_7 n h1 a_0 a_1 a2 (0:Int32)))
set_option maxRecDepth 20000 in
set_option maxHeartbeats 4000000 in
theorem sWe_weights {g : Gh} {h' : MH} {r' : Nat} {n : Nat} {h : MH} {a_0 : Nat} {a_1 : Nat} (hf : fWe_weights n h a_0 a_1 = some (h', r')) : Sp g yWe_weights cWe_weights 7 (some (.array .int)) rmWe_weights h [.ref a_0, .ref a_1] h' (some (.ref r')) := by
  refine sp_of (by decide) (Nat.le_of_ble_eq_true rfl) ?_
  change V g yWe_weights cWe_weights 7 (some (.array .int)) rmWe_weights (ZQ g rmWe_weights h' (some (.ref r'))) 0 0 h 0 [some (.ref a_0), some (.ref a_1), none, none, none, none, none] []
  unfold fWe_weights at hf
  refine v_bipush (pc := 0) (37:Int32) dWe_weights_0 rfl ?_
  refine v_newI (pc := 2) dWe_weights_2 arI (by decide) (Nat.le_of_ble_eq_true rfl) (Nat.le_of_ble_eq_true rfl) hf (fun h1 a2 hf => ?_)
  refine v_astore_n (i := 2) (pc := 4) (ls' := [some (.ref a_0), some (.ref a_1), some (.ref a2), none, none, none, none]) dWe_weights_4 rfl (by decide) rfl ?_
  refine v_iconst (pc := 5) (0:Int32) dWe_weights_5 rfl ?_
  refine v_istore_n (i := 3) (pc := 6) (ls' := [some (.ref a_0), some (.ref a_1), some (.ref a2), some (.int (0:Int32)), none, none, none]) dWe_weights_6 rfl (by decide) rfl ?_
  refine v_wk (ls' := [some (.ref a_0), some (.ref a_1), some (.ref a2), some (.int (0:Int32)), none, none, none]) ⟨rfl, rfl, rfl, rfl, trivial⟩ ?_
  exact tWe_weights_7 n h1 a_0 a_1 a2 (0:Int32) hf
abbrev rmX_firstMisfit : Room := { frames := 1, cells := 0, slots := 0, locals := 24 }
def bX_firstMisfit_2 (n : Nat) (k2 : (MH × Nat × Nat × Int32) → Option (MH × Int32)) (h : MH) (x0 : Nat) (x1 : Nat) (x2 : Int32) : Option (MH × Int32) := (if (37:Int32) ≤ x2 then (some (h, (-1000000:Int32))) else ((gfR h x0 [11] 0).bind fun a1 => ((rdI h x1 x2).bind fun i2 => ((gfR h x0 [11] 1).bind fun a3 => ((gfR h a3 [0] 3).bind fun a4 => ((rdI h a4 x2).bind fun i5 => ((chk h a1 3).bind fun _ => (bnd2 (fMo_times h a1 i2.toInt64 i5.toInt64) fun h6 j7 => (if j7 = (1:Int64) then (k2 (h6, x0, x1, (x2 + (1:Int32)))) else (some (h6, x2)))))))))))
def fX_firstMisfit_2 (n : Nat) (h : MH) (x0 : Nat) (x1 : Nat) (x2 : Int32) : Option (MH × Int32) := lp (fun n k s => bX_firstMisfit_2 n k s.1 s.2.1 s.2.2.1 s.2.2.2) n (h, x0, x1, x2)
set_option maxRecDepth 20000 in
set_option maxHeartbeats 4000000 in
theorem tX_firstMisfit_2 {g : Gh} {h' : MH} {r' : Int32} (n : Nat) (h : MH) (x0 : Nat) (x1 : Nat) (x2 : Int32) (hf : fX_firstMisfit_2 n h x0 x1 x2 = some (h', r')) : V g yX_firstMisfit cX_firstMisfit 3 (some .int) rmX_firstMisfit (ZQ g rmX_firstMisfit h' (some (.int r'))) 0 0 h 2 [some (.ref x0), some (.ref x1), some (.int x2)] [] := by
  unfold fX_firstMisfit_2 at hf
  refine lp_ind (P := fun s => V g yX_firstMisfit cX_firstMisfit 3 (some .int) rmX_firstMisfit (ZQ g rmX_firstMisfit h' (some (.int r'))) 0 0 s.1 2 [some (.ref s.2.1), some (.ref s.2.2.1), some (.int s.2.2.2)] []) (fun n k2 hk2 s hf => ?_) n (h, x0, x1, x2) hf
  obtain ⟨h, x0, x1, x2⟩ := s
  replace hk2 : ∀ (h : MH) (x0 : Nat) (x1 : Nat) (x2 : Int32), k2 (h, x0, x1, x2) = some (h', r') → V g yX_firstMisfit cX_firstMisfit 3 (some .int) rmX_firstMisfit (ZQ g rmX_firstMisfit h' (some (.int r'))) 0 0 h 2 [some (.ref x0), some (.ref x1), some (.int x2)] [] := fun h x0 x1 x2 => hk2 (h, x0, x1, x2)
  replace hf : bX_firstMisfit_2 n k2 h x0 x1 x2 = some (h', r') := hf
  change V g yX_firstMisfit cX_firstMisfit 3 (some .int) rmX_firstMisfit (ZQ g rmX_firstMisfit h' (some (.int r'))) 0 0 h 2 [some (.ref x0), some (.ref x1), some (.int x2)] []
  unfold bX_firstMisfit_2 at hf
  refine v_iload_n (i := 2) (pc := 2) dX_firstMisfit_2 rfl rfl ?_
  refine v_bipush (pc := 3) (37:Int32) dX_firstMisfit_3 rfl ?_
  refine v_icmp_ge (pc := 5) (tgt := 42) dX_firstMisfit_5 rfl hf (fun hf => ?_) (fun hf => ?_)
  · refine v_ldc (pc := 42) dX_firstMisfit_42 kiX_135 ?_
    exact v_iret (pc := 44) dX_firstMisfit_44 (by decide) (by decide) hf
  refine v_aload_n (i := 0) (pc := 8) dX_firstMisfit_8 rfl rfl ?_
  refine v_getR (pc := 9) fgX_12 dX_firstMisfit_9 hf (fun a1 hf => ?_)
  refine v_aload_n (i := 1) (pc := 12) dX_firstMisfit_12 rfl rfl ?_
  refine v_iload_n (i := 2) (pc := 13) dX_firstMisfit_13 rfl rfl ?_
  refine v_iald (pc := 14) dX_firstMisfit_14 hf (fun i2 hf => ?_)
  refine v_i2l (pc := 15) dX_firstMisfit_15 ?_
  refine v_aload_n (i := 0) (pc := 16) dX_firstMisfit_16 rfl rfl ?_
  refine v_getR (pc := 17) fgX_21 dX_firstMisfit_17 hf (fun a3 hf => ?_)
  refine v_getR (pc := 20) fgX_129 dX_firstMisfit_20 hf (fun a4 hf => ?_)
  refine v_iload_n (i := 2) (pc := 23) dX_firstMisfit_23 rfl rfl ?_
  refine v_iald (pc := 24) dX_firstMisfit_24 hf (fun i5 hf => ?_)
  refine v_i2l (pc := 25) dX_firstMisfit_25 ?_
  obtain ⟨u9, cu9, hf⟩ := bnd hf
  obtain ⟨h6, j7, e8, hf⟩ := bndp hf
  refine v_M1 (pc := 26) (As := [.long i2.toInt64, .long i5.toInt64]) (rest := []) lmX_252 cu9 (sMo_times e8) ⟨Nat.le_of_ble_eq_true rfl, Nat.le_of_ble_eq_true rfl, Nat.le_of_ble_eq_true rfl, Nat.le_of_ble_eq_true rfl⟩ dX_firstMisfit_26 rfl rfl (Nat.le_of_ble_eq_true rfl) ?_
  refine v_lconst (pc := 29) (1:Int64) dX_firstMisfit_29 rfl ?_
  refine v_lcmp_eq (pc := 30) (tgt := 36) dX_firstMisfit_30 dX_firstMisfit_31 rfl hf (fun hf => ?_) (fun hf => ?_)
  rotate_left
  · refine v_iload_n (i := 2) (pc := 34) dX_firstMisfit_34 rfl rfl ?_
    exact v_iret (pc := 35) dX_firstMisfit_35 (by decide) (by decide) hf
  refine v_iinc (pc := 36) (v := (x2 + (1:Int32))) (ls' := [some (.ref x0), some (.ref x1), some (.int (x2 + (1:Int32)))]) dX_firstMisfit_36 rfl rfl (by decide) rfl ?_
  refine v_goto (pc := 39) (tgt := 2) dX_firstMisfit_39 rfl ?_
  refine v_wk (ls' := [some (.ref x0), some (.ref x1), some (.int (x2 + (1:Int32)))]) ⟨rfl, rfl, rfl, trivial⟩ ?_
  exact hk2 h6 x0 x1 (x2 + (1:Int32)) hf
def fX_firstMisfit (n : Nat) (h : MH) (a_0 : Nat) (a_1 : Nat) : Option (MH × Int32) := (fX_firstMisfit_2 n h a_0 a_1 (0:Int32))
set_option maxRecDepth 20000 in
set_option maxHeartbeats 4000000 in
theorem sX_firstMisfit {g : Gh} {h' : MH} {r' : Int32} {n : Nat} {h : MH} {a_0 : Nat} {a_1 : Nat} (hf : fX_firstMisfit n h a_0 a_1 = some (h', r')) : Sp g yX_firstMisfit cX_firstMisfit 3 (some .int) rmX_firstMisfit h [.ref a_0, .ref a_1] h' (some (.int r')) := by
  refine sp_of (by decide) (Nat.le_of_ble_eq_true rfl) ?_
  change V g yX_firstMisfit cX_firstMisfit 3 (some .int) rmX_firstMisfit (ZQ g rmX_firstMisfit h' (some (.int r'))) 0 0 h 0 [some (.ref a_0), some (.ref a_1), none] []
  unfold fX_firstMisfit at hf
  refine v_iconst (pc := 0) (0:Int32) dX_firstMisfit_0 rfl ?_
  refine v_istore_n (i := 2) (pc := 1) (ls' := [some (.ref a_0), some (.ref a_1), some (.int (0:Int32))]) dX_firstMisfit_1 rfl (by decide) rfl ?_
  refine v_wk (ls' := [some (.ref a_0), some (.ref a_1), some (.int (0:Int32))]) ⟨rfl, rfl, rfl, trivial⟩ ?_
  exact tX_firstMisfit_2 n h a_0 a_1 (0:Int32) hf
abbrev rmSg_zeroFrom : Room := { frames := 1, cells := 0, slots := 0, locals := 22 }
def bSg_zeroFrom_14 (k2 : (MH × Nat × Int32 × Int32) → Option (MH × Int32)) (n : Nat) (k14 : (MH × Nat × Int32 × Int32 × Int32) → Option (MH × Int32)) (h : MH) (x0 : Nat) (x1 : Int32) (x2 : Int32) (x3 : Int32) : Option (MH × Int32) := ((gfI h x0 [7] 0).bind fun i1 => (if i1 ≤ x3 then (k2 (h, x0, x1, (x2 + (1:Int32)))) else ((chk h x0 7).bind fun _ => (bnd2 (fSg_a h x0 x2 x3) fun h2 j3 => (if j3 = (0:Int64) then (k14 (h2, x0, x1, x2, (x3 + (1:Int32)))) else (retZ h2 (0:Int32)))))))
def fSg_zeroFrom_14 (k2 : (MH × Nat × Int32 × Int32) → Option (MH × Int32)) (n : Nat) (h : MH) (x0 : Nat) (x1 : Int32) (x2 : Int32) (x3 : Int32) : Option (MH × Int32) := lp (fun n k s => bSg_zeroFrom_14 k2 n k s.1 s.2.1 s.2.2.1 s.2.2.2.1 s.2.2.2.2) n (h, x0, x1, x2, x3)
set_option maxRecDepth 20000 in
set_option maxHeartbeats 4000000 in
theorem tSg_zeroFrom_14 {g : Gh} {h' : MH} {r' : Int32} {k2 : (MH × Nat × Int32 × Int32) → Option (MH × Int32)} (hk2 : ∀ (h : MH) (x0 : Nat) (x1 : Int32) (x2 : Int32), k2 (h, x0, x1, x2) = some (h', r') → V g ySg_zeroFrom cSg_zeroFrom 4 (some .boolean) rmSg_zeroFrom (ZQ g rmSg_zeroFrom h' (some (.int r'))) 0 0 h 2 [some (.ref x0), some (.int x1), some (.int x2), none] []) (n : Nat) (h : MH) (x0 : Nat) (x1 : Int32) (x2 : Int32) (x3 : Int32) (hf : fSg_zeroFrom_14 k2 n h x0 x1 x2 x3 = some (h', r')) : V g ySg_zeroFrom cSg_zeroFrom 4 (some .boolean) rmSg_zeroFrom (ZQ g rmSg_zeroFrom h' (some (.int r'))) 0 0 h 14 [some (.ref x0), some (.int x1), some (.int x2), some (.int x3)] [] := by
  unfold fSg_zeroFrom_14 at hf
  refine lp_ind (P := fun s => V g ySg_zeroFrom cSg_zeroFrom 4 (some .boolean) rmSg_zeroFrom (ZQ g rmSg_zeroFrom h' (some (.int r'))) 0 0 s.1 14 [some (.ref s.2.1), some (.int s.2.2.1), some (.int s.2.2.2.1), some (.int s.2.2.2.2)] []) (fun n k14 hk14 s hf => ?_) n (h, x0, x1, x2, x3) hf
  obtain ⟨h, x0, x1, x2, x3⟩ := s
  replace hk14 : ∀ (h : MH) (x0 : Nat) (x1 : Int32) (x2 : Int32) (x3 : Int32), k14 (h, x0, x1, x2, x3) = some (h', r') → V g ySg_zeroFrom cSg_zeroFrom 4 (some .boolean) rmSg_zeroFrom (ZQ g rmSg_zeroFrom h' (some (.int r'))) 0 0 h 14 [some (.ref x0), some (.int x1), some (.int x2), some (.int x3)] [] := fun h x0 x1 x2 x3 => hk14 (h, x0, x1, x2, x3)
  replace hf : bSg_zeroFrom_14 k2 n k14 h x0 x1 x2 x3 = some (h', r') := hf
  change V g ySg_zeroFrom cSg_zeroFrom 4 (some .boolean) rmSg_zeroFrom (ZQ g rmSg_zeroFrom h' (some (.int r'))) 0 0 h 14 [some (.ref x0), some (.int x1), some (.int x2), some (.int x3)] []
  unfold bSg_zeroFrom_14 at hf
  refine v_iload_n (i := 3) (pc := 14) dSg_zeroFrom_14 rfl rfl ?_
  refine v_aload_n (i := 0) (pc := 15) dSg_zeroFrom_15 rfl rfl ?_
  refine v_getI (pc := 16) fgSg_15 dSg_zeroFrom_16 hf (fun i1 hf => ?_)
  refine v_icmp_ge (pc := 19) (tgt := 41) dSg_zeroFrom_19 rfl hf (fun hf => ?_) (fun hf => ?_)
  · refine v_iinc (pc := 41) (v := (x2 + (1:Int32))) (ls' := [some (.ref x0), some (.int x1), some (.int (x2 + (1:Int32))), some (.int x3)]) dSg_zeroFrom_41 rfl rfl (by decide) rfl ?_
    refine v_goto (pc := 44) (tgt := 2) dSg_zeroFrom_44 rfl ?_
    refine v_wk (ls' := [some (.ref x0), some (.int x1), some (.int (x2 + (1:Int32))), none]) ⟨rfl, rfl, rfl, trivial⟩ ?_
    exact hk2 h x0 x1 (x2 + (1:Int32)) hf
  refine v_aload_n (i := 0) (pc := 22) dSg_zeroFrom_22 rfl rfl ?_
  refine v_iload_n (i := 2) (pc := 23) dSg_zeroFrom_23 rfl rfl ?_
  refine v_iload_n (i := 3) (pc := 24) dSg_zeroFrom_24 rfl rfl ?_
  obtain ⟨u5, cu5, hf⟩ := bnd hf
  obtain ⟨h2, j3, e4, hf⟩ := bndp hf
  refine v_M1 (pc := 25) (As := [.int x2, .int x3]) (rest := []) lmSg_25 cu5 (sSg_a e4) ⟨Nat.le_of_ble_eq_true rfl, Nat.le_of_ble_eq_true rfl, Nat.le_of_ble_eq_true rfl, Nat.le_of_ble_eq_true rfl⟩ dSg_zeroFrom_25 rfl rfl (Nat.le_of_ble_eq_true rfl) ?_
  refine v_lconst (pc := 28) (0:Int64) dSg_zeroFrom_28 rfl ?_
  refine v_lcmp_eq (pc := 29) (tgt := 35) dSg_zeroFrom_29 dSg_zeroFrom_30 rfl hf (fun hf => ?_) (fun hf => ?_)
  rotate_left
  · refine v_iconst (pc := 33) (0:Int32) dSg_zeroFrom_33 rfl ?_
    exact v_zret (pc := 34) dSg_zeroFrom_34 (by decide) (by decide) hf
  refine v_iinc (pc := 35) (v := (x3 + (1:Int32))) (ls' := [some (.ref x0), some (.int x1), some (.int x2), some (.int (x3 + (1:Int32)))]) dSg_zeroFrom_35 rfl rfl (by decide) rfl ?_
  refine v_goto (pc := 38) (tgt := 14) dSg_zeroFrom_38 rfl ?_
  refine v_wk (ls' := [some (.ref x0), some (.int x1), some (.int x2), some (.int (x3 + (1:Int32)))]) ⟨rfl, rfl, rfl, rfl, trivial⟩ ?_
  exact hk14 h2 x0 x1 x2 (x3 + (1:Int32)) hf
def bSg_zeroFrom_2 (n : Nat) (k2 : (MH × Nat × Int32 × Int32) → Option (MH × Int32)) (h : MH) (x0 : Nat) (x1 : Int32) (x2 : Int32) : Option (MH × Int32) := ((gfI h x0 [7] 0).bind fun i1 => (if i1 ≤ x2 then (retZ h (1:Int32)) else (fSg_zeroFrom_14 k2 n h x0 x1 x2 (x2 + x1))))
def fSg_zeroFrom_2 (n : Nat) (h : MH) (x0 : Nat) (x1 : Int32) (x2 : Int32) : Option (MH × Int32) := lp (fun n k s => bSg_zeroFrom_2 n k s.1 s.2.1 s.2.2.1 s.2.2.2) n (h, x0, x1, x2)
set_option maxRecDepth 20000 in
set_option maxHeartbeats 4000000 in
theorem tSg_zeroFrom_2 {g : Gh} {h' : MH} {r' : Int32} (n : Nat) (h : MH) (x0 : Nat) (x1 : Int32) (x2 : Int32) (hf : fSg_zeroFrom_2 n h x0 x1 x2 = some (h', r')) : V g ySg_zeroFrom cSg_zeroFrom 4 (some .boolean) rmSg_zeroFrom (ZQ g rmSg_zeroFrom h' (some (.int r'))) 0 0 h 2 [some (.ref x0), some (.int x1), some (.int x2), none] [] := by
  unfold fSg_zeroFrom_2 at hf
  refine lp_ind (P := fun s => V g ySg_zeroFrom cSg_zeroFrom 4 (some .boolean) rmSg_zeroFrom (ZQ g rmSg_zeroFrom h' (some (.int r'))) 0 0 s.1 2 [some (.ref s.2.1), some (.int s.2.2.1), some (.int s.2.2.2), none] []) (fun n k2 hk2 s hf => ?_) n (h, x0, x1, x2) hf
  obtain ⟨h, x0, x1, x2⟩ := s
  replace hk2 : ∀ (h : MH) (x0 : Nat) (x1 : Int32) (x2 : Int32), k2 (h, x0, x1, x2) = some (h', r') → V g ySg_zeroFrom cSg_zeroFrom 4 (some .boolean) rmSg_zeroFrom (ZQ g rmSg_zeroFrom h' (some (.int r'))) 0 0 h 2 [some (.ref x0), some (.int x1), some (.int x2), none] [] := fun h x0 x1 x2 => hk2 (h, x0, x1, x2)
  replace hf : bSg_zeroFrom_2 n k2 h x0 x1 x2 = some (h', r') := hf
  change V g ySg_zeroFrom cSg_zeroFrom 4 (some .boolean) rmSg_zeroFrom (ZQ g rmSg_zeroFrom h' (some (.int r'))) 0 0 h 2 [some (.ref x0), some (.int x1), some (.int x2), none] []
  unfold bSg_zeroFrom_2 at hf
  refine v_iload_n (i := 2) (pc := 2) dSg_zeroFrom_2 rfl rfl ?_
  refine v_aload_n (i := 0) (pc := 3) dSg_zeroFrom_3 rfl rfl ?_
  refine v_getI (pc := 4) fgSg_15 dSg_zeroFrom_4 hf (fun i1 hf => ?_)
  refine v_icmp_ge (pc := 7) (tgt := 47) dSg_zeroFrom_7 rfl hf (fun hf => ?_) (fun hf => ?_)
  · refine v_iconst (pc := 47) (1:Int32) dSg_zeroFrom_47 rfl ?_
    exact v_zret (pc := 48) dSg_zeroFrom_48 (by decide) (by decide) hf
  refine v_iload_n (i := 2) (pc := 10) dSg_zeroFrom_10 rfl rfl ?_
  refine v_iload_n (i := 1) (pc := 11) dSg_zeroFrom_11 rfl rfl ?_
  refine v_iadd (pc := 12) dSg_zeroFrom_12 ?_
  refine v_istore_n (i := 3) (pc := 13) (ls' := [some (.ref x0), some (.int x1), some (.int x2), some (.int (x2 + x1))]) dSg_zeroFrom_13 rfl (by decide) rfl ?_
  refine v_wk (ls' := [some (.ref x0), some (.int x1), some (.int x2), some (.int (x2 + x1))]) ⟨rfl, rfl, rfl, rfl, trivial⟩ ?_
  exact tSg_zeroFrom_14 hk2 n h x0 x1 x2 (x2 + x1) hf
def fSg_zeroFrom (n : Nat) (h : MH) (a_0 : Nat) (i_1 : Int32) : Option (MH × Int32) := (fSg_zeroFrom_2 n h a_0 i_1 (0:Int32))
set_option maxRecDepth 20000 in
set_option maxHeartbeats 4000000 in
theorem sSg_zeroFrom {g : Gh} {h' : MH} {r' : Int32} {n : Nat} {h : MH} {a_0 : Nat} {i_1 : Int32} (hf : fSg_zeroFrom n h a_0 i_1 = some (h', r')) : Sp g ySg_zeroFrom cSg_zeroFrom 4 (some .boolean) rmSg_zeroFrom h [.ref a_0, .int i_1] h' (some (.int r')) := by
  refine sp_of (by decide) (Nat.le_of_ble_eq_true rfl) ?_
  change V g ySg_zeroFrom cSg_zeroFrom 4 (some .boolean) rmSg_zeroFrom (ZQ g rmSg_zeroFrom h' (some (.int r'))) 0 0 h 0 [some (.ref a_0), some (.int i_1), none, none] []
  unfold fSg_zeroFrom at hf
  refine v_iconst (pc := 0) (0:Int32) dSg_zeroFrom_0 rfl ?_
  refine v_istore_n (i := 2) (pc := 1) (ls' := [some (.ref a_0), some (.int i_1), some (.int (0:Int32)), none]) dSg_zeroFrom_1 rfl (by decide) rfl ?_
  refine v_wk (ls' := [some (.ref a_0), some (.int i_1), some (.int (0:Int32)), none]) ⟨rfl, rfl, rfl, trivial⟩ ?_
  exact tSg_zeroFrom_2 n h a_0 i_1 (0:Int32) hf
abbrev rmTa_init : Room := { frames := 1, cells := 0, slots := 0, locals := 20 }
def fTa_init (h : MH) (a_0 : Nat) (a_1 : Nat) (a_2 : Nat) (i_3 : Int32) (i_4 : Int32) : Option MH := ((pf h a_0 [8, 1, 2, 4] 0 (.ref a_1)).bind fun h1 => ((pf h1 a_0 [8, 1, 2, 4] 1 (.ref a_2)).bind fun h2 => ((pf h2 a_0 [8, 1, 2, 4] 2 (.int i_3)).bind fun h3 => ((pf h3 a_0 [8, 1, 2, 4] 3 (.int i_4)).bind fun h4 => (some h4)))))
set_option maxRecDepth 20000 in
set_option maxHeartbeats 4000000 in
theorem sTa_init {g : Gh} {h' : MH} {h : MH} {a_0 : Nat} {a_1 : Nat} {a_2 : Nat} {i_3 : Int32} {i_4 : Int32} (hf : fTa_init h a_0 a_1 a_2 i_3 i_4 = some h') : Sp g yTa_init cTa_init 5 none rmTa_init h [.ref a_0, .ref a_1, .ref a_2, .int i_3, .int i_4] h' none := by
  refine sp_of (by decide) (Nat.le_of_ble_eq_true rfl) ?_
  change V g yTa_init cTa_init 5 none rmTa_init (ZQ g rmTa_init h' none) 0 0 h 0 [some (.ref a_0), some (.ref a_1), some (.ref a_2), some (.int i_3), some (.int i_4)] []
  unfold fTa_init at hf
  refine v_aload_n (i := 0) (pc := 0) dTa_init_0 rfl rfl ?_
  refine v_objInit (pc := 1) dTa_init_1 mlTa_3 obI obC (by decide) (Nat.le_of_ble_eq_true rfl) ?_
  refine v_aload_n (i := 0) (pc := 4) dTa_init_4 rfl rfl ?_
  refine v_aload_n (i := 1) (pc := 5) dTa_init_5 rfl rfl ?_
  refine v_putF (pc := 6) ffTa_9 rfl (fun _ => ⟨rfl, rfl⟩) dTa_init_6 hf (fun h1 hf => ?_)
  refine v_aload_n (i := 0) (pc := 9) dTa_init_9 rfl rfl ?_
  refine v_aload_n (i := 2) (pc := 10) dTa_init_10 rfl rfl ?_
  refine v_putF (pc := 11) ffTa_15 rfl (fun _ => ⟨rfl, rfl⟩) dTa_init_11 hf (fun h2 hf => ?_)
  refine v_aload_n (i := 0) (pc := 14) dTa_init_14 rfl rfl ?_
  refine v_iload_n (i := 3) (pc := 15) dTa_init_15 rfl rfl ?_
  refine v_putF (pc := 16) ffTa_19 rfl (fun _ => ⟨rfl, rfl⟩) dTa_init_16 hf (fun h3 hf => ?_)
  refine v_aload_n (i := 0) (pc := 19) dTa_init_19 rfl rfl ?_
  refine v_iload (pc := 20) dTa_init_20 rfl ?_
  refine v_putF (pc := 22) ffTa_23 rfl (fun _ => ⟨rfl, rfl⟩) dTa_init_22 hf (fun h4 hf => ?_)
  exact v_vret (pc := 25) dTa_init_25 (by decide) (by decide) hf
abbrev rmLo_init : Room := { frames := 2, cells := 0, slots := 0, locals := 44 }
def fLo_init (h : MH) (a_0 : Nat) (a_1 : Nat) (a_2 : Nat) (i_3 : Int32) (i_4 : Int32) : Option MH := ((fTa_init h a_0 a_1 a_2 i_3 i_4).bind fun h1 => (some h1))
set_option maxRecDepth 20000 in
set_option maxHeartbeats 4000000 in
theorem sLo_init {g : Gh} {h' : MH} {h : MH} {a_0 : Nat} {a_1 : Nat} {a_2 : Nat} {i_3 : Int32} {i_4 : Int32} (hf : fLo_init h a_0 a_1 a_2 i_3 i_4 = some h') : Sp g yLo_init cLo_init 5 none rmLo_init h [.ref a_0, .ref a_1, .ref a_2, .int i_3, .int i_4] h' none := by
  refine sp_of (by decide) (Nat.le_of_ble_eq_true rfl) ?_
  change V g yLo_init cLo_init 5 none rmLo_init (ZQ g rmLo_init h' none) 0 0 h 0 [some (.ref a_0), some (.ref a_1), some (.ref a_2), some (.int i_3), some (.int i_4)] []
  unfold fLo_init at hf
  refine v_aload_n (i := 0) (pc := 0) dLo_init_0 rfl rfl ?_
  refine v_aload_n (i := 1) (pc := 1) dLo_init_1 rfl rfl ?_
  refine v_aload_n (i := 2) (pc := 2) dLo_init_2 rfl rfl ?_
  refine v_iload_n (i := 3) (pc := 3) dLo_init_3 rfl rfl ?_
  refine v_iload (pc := 4) dLo_init_4 rfl ?_
  obtain ⟨h1, e2, hf⟩ := bnd hf
  refine v_I0 (pc := 6) (As := [.ref a_1, .ref a_2, .int i_3, .int i_4]) (rest := []) liLo_3 (sTa_init e2) ⟨Nat.le_of_ble_eq_true rfl, Nat.le_of_ble_eq_true rfl, Nat.le_of_ble_eq_true rfl, Nat.le_of_ble_eq_true rfl⟩ dLo_init_6 rfl rfl (Nat.le_of_ble_eq_true rfl) ?_
  exact v_vret (pc := 9) dLo_init_9 (by decide) (by decide) hf
abbrev rmPl_init : Room := { frames := 3, cells := 0, slots := 0, locals := 68 }
def fPl_init (h : MH) (a_0 : Nat) (a_1 : Nat) (a_2 : Nat) (i_3 : Int32) (i_4 : Int32) : Option MH := ((fLo_init h a_0 a_1 a_2 i_3 i_4).bind fun h1 => (some h1))
set_option maxRecDepth 20000 in
set_option maxHeartbeats 4000000 in
theorem sPl_init {g : Gh} {h' : MH} {h : MH} {a_0 : Nat} {a_1 : Nat} {a_2 : Nat} {i_3 : Int32} {i_4 : Int32} (hf : fPl_init h a_0 a_1 a_2 i_3 i_4 = some h') : Sp g yPl_init cPl_init 5 none rmPl_init h [.ref a_0, .ref a_1, .ref a_2, .int i_3, .int i_4] h' none := by
  refine sp_of (by decide) (Nat.le_of_ble_eq_true rfl) ?_
  change V g yPl_init cPl_init 5 none rmPl_init (ZQ g rmPl_init h' none) 0 0 h 0 [some (.ref a_0), some (.ref a_1), some (.ref a_2), some (.int i_3), some (.int i_4)] []
  unfold fPl_init at hf
  refine v_aload_n (i := 0) (pc := 0) dPl_init_0 rfl rfl ?_
  refine v_aload_n (i := 1) (pc := 1) dPl_init_1 rfl rfl ?_
  refine v_aload_n (i := 2) (pc := 2) dPl_init_2 rfl rfl ?_
  refine v_iload_n (i := 3) (pc := 3) dPl_init_3 rfl rfl ?_
  refine v_iload (pc := 4) dPl_init_4 rfl ?_
  obtain ⟨h1, e2, hf⟩ := bnd hf
  refine v_I0 (pc := 6) (As := [.ref a_1, .ref a_2, .int i_3, .int i_4]) (rest := []) liPl_3 (sLo_init e2) ⟨Nat.le_of_ble_eq_true rfl, Nat.le_of_ble_eq_true rfl, Nat.le_of_ble_eq_true rfl, Nat.le_of_ble_eq_true rfl⟩ dPl_init_6 rfl rfl (Nat.le_of_ble_eq_true rfl) ?_
  exact v_vret (pc := 9) dPl_init_9 (by decide) (by decide) hf
abbrev rmX_keeps : Room := { frames := 1, cells := 0, slots := 0, locals := 24 }
def bX_keeps_12 (k2 : (MH × Nat × Nat × Int32) → Option (MH × Int32)) (n : Nat) (k12 : (MH × Nat × Nat × Int32 × Int32) → Option (MH × Int32)) (h : MH) (x0 : Nat) (x1 : Nat) (x2 : Int32) (x3 : Int32) : Option (MH × Int32) := (if x2 < x3 then (k2 (h, x0, x1, (x2 + (1:Int32)))) else ((gfR h x0 [11] 0).bind fun a1 => ((chk h x1 7).bind fun _ => (bnd2 (fSg_b h x1 x2) fun h2 j3 => ((chk h2 x1 7).bind fun _ => (bnd2 (fSg_a h2 x1 x2 x3) fun h4 j5 => ((chk h4 a1 3).bind fun _ => (bnd2 (fMo_times h4 a1 j3 j5) fun h6 j7 => ((gfR h6 x0 [11] 0).bind fun a8 => ((chk h6 x1 7).bind fun _ => (bnd2 (fSg_b h6 x1 x3) fun h9 j10 => ((chk h9 x1 7).bind fun _ => (bnd2 (fSg_a h9 x1 x3 x2) fun h11 j12 => ((chk h11 a8 3).bind fun _ => (bnd2 (fMo_times h11 a8 j10 j12) fun h13 j14 => ((gfR h13 x0 [11] 0).bind fun a15 => ((chk h13 a15 3).bind fun _ => (bnd2 (fMo_plus h13 a15 j7 j14) fun h16 j17 => ((gfR h16 x0 [11] 0).bind fun a18 => ((chk h16 x1 7).bind fun _ => (bnd2 (fSg_b h16 x1 x2) fun h19 j20 => ((chk h19 x1 7).bind fun _ => (bnd2 (fSg_b h19 x1 x3) fun h21 j22 => ((chk h21 a18 3).bind fun _ => (bnd2 (fMo_times h21 a18 j20 j22) fun h23 j24 => (if j17 = j24 then (k12 (h23, x0, x1, x2, (x3 + (1:Int32)))) else (retZ h23 (0:Int32))))))))))))))))))))))))))))
def fX_keeps_12 (k2 : (MH × Nat × Nat × Int32) → Option (MH × Int32)) (n : Nat) (h : MH) (x0 : Nat) (x1 : Nat) (x2 : Int32) (x3 : Int32) : Option (MH × Int32) := lp (fun n k s => bX_keeps_12 k2 n k s.1 s.2.1 s.2.2.1 s.2.2.2.1 s.2.2.2.2) n (h, x0, x1, x2, x3)
set_option maxRecDepth 20000 in
set_option maxHeartbeats 4000000 in
theorem tX_keeps_12 {g : Gh} {h' : MH} {r' : Int32} {k2 : (MH × Nat × Nat × Int32) → Option (MH × Int32)} (hk2 : ∀ (h : MH) (x0 : Nat) (x1 : Nat) (x2 : Int32), k2 (h, x0, x1, x2) = some (h', r') → V g yX_keeps cX_keeps 8 (some .boolean) rmX_keeps (ZQ g rmX_keeps h' (some (.int r'))) 0 0 h 2 [some (.ref x0), some (.ref x1), some (.int x2), none, none, none, none, none] []) (n : Nat) (h : MH) (x0 : Nat) (x1 : Nat) (x2 : Int32) (x3 : Int32) (hf : fX_keeps_12 k2 n h x0 x1 x2 x3 = some (h', r')) : V g yX_keeps cX_keeps 8 (some .boolean) rmX_keeps (ZQ g rmX_keeps h' (some (.int r'))) 0 0 h 12 [some (.ref x0), some (.ref x1), some (.int x2), some (.int x3), none, none, none, none] [] := by
  unfold fX_keeps_12 at hf
  refine lp_ind (P := fun s => V g yX_keeps cX_keeps 8 (some .boolean) rmX_keeps (ZQ g rmX_keeps h' (some (.int r'))) 0 0 s.1 12 [some (.ref s.2.1), some (.ref s.2.2.1), some (.int s.2.2.2.1), some (.int s.2.2.2.2), none, none, none, none] []) (fun n k12 hk12 s hf => ?_) n (h, x0, x1, x2, x3) hf
  obtain ⟨h, x0, x1, x2, x3⟩ := s
  replace hk12 : ∀ (h : MH) (x0 : Nat) (x1 : Nat) (x2 : Int32) (x3 : Int32), k12 (h, x0, x1, x2, x3) = some (h', r') → V g yX_keeps cX_keeps 8 (some .boolean) rmX_keeps (ZQ g rmX_keeps h' (some (.int r'))) 0 0 h 12 [some (.ref x0), some (.ref x1), some (.int x2), some (.int x3), none, none, none, none] [] := fun h x0 x1 x2 x3 => hk12 (h, x0, x1, x2, x3)
  replace hf : bX_keeps_12 k2 n k12 h x0 x1 x2 x3 = some (h', r') := hf
  change V g yX_keeps cX_keeps 8 (some .boolean) rmX_keeps (ZQ g rmX_keeps h' (some (.int r'))) 0 0 h 12 [some (.ref x0), some (.ref x1), some (.int x2), some (.int x3), none, none, none, none] []
  unfold bX_keeps_12 at hf
  refine v_iload_n (i := 3) (pc := 12) dX_keeps_12 rfl rfl ?_
  refine v_iload_n (i := 2) (pc := 13) dX_keeps_13 rfl rfl ?_
  refine v_icmp_gt (pc := 14) (tgt := 97) dX_keeps_14 rfl hf (fun hf => ?_) (fun hf => ?_)
  · refine v_iinc (pc := 97) (v := (x2 + (1:Int32))) (ls' := [some (.ref x0), some (.ref x1), some (.int (x2 + (1:Int32))), some (.int x3), none, none, none, none]) dX_keeps_97 rfl rfl (by decide) rfl ?_
    refine v_goto (pc := 100) (tgt := 2) dX_keeps_100 rfl ?_
    refine v_wk (ls' := [some (.ref x0), some (.ref x1), some (.int (x2 + (1:Int32))), none, none, none, none, none]) ⟨rfl, rfl, rfl, trivial⟩ ?_
    exact hk2 h x0 x1 (x2 + (1:Int32)) hf
  refine v_aload_n (i := 0) (pc := 17) dX_keeps_17 rfl rfl ?_
  refine v_getR (pc := 18) fgX_12 dX_keeps_18 hf (fun a1 hf => ?_)
  refine v_aload_n (i := 1) (pc := 21) dX_keeps_21 rfl rfl ?_
  refine v_iload_n (i := 2) (pc := 22) dX_keeps_22 rfl rfl ?_
  obtain ⟨u44, cu44, hf⟩ := bnd hf
  obtain ⟨h2, j3, e43, hf⟩ := bndp hf
  refine v_M1 (pc := 23) (As := [.int x2]) (rest := [.ref a1]) lmX_187 cu44 (sSg_b e43) ⟨Nat.le_of_ble_eq_true rfl, Nat.le_of_ble_eq_true rfl, Nat.le_of_ble_eq_true rfl, Nat.le_of_ble_eq_true rfl⟩ dX_keeps_23 rfl rfl (Nat.le_of_ble_eq_true rfl) ?_
  refine v_aload_n (i := 1) (pc := 26) dX_keeps_26 rfl rfl ?_
  refine v_iload_n (i := 2) (pc := 27) dX_keeps_27 rfl rfl ?_
  refine v_iload_n (i := 3) (pc := 28) dX_keeps_28 rfl rfl ?_
  obtain ⟨u42, cu42, hf⟩ := bnd hf
  obtain ⟨h4, j5, e41, hf⟩ := bndp hf
  refine v_M1 (pc := 29) (As := [.int x2, .int x3]) (rest := [.long j3, .ref a1]) lmX_191 cu42 (sSg_a e41) ⟨Nat.le_of_ble_eq_true rfl, Nat.le_of_ble_eq_true rfl, Nat.le_of_ble_eq_true rfl, Nat.le_of_ble_eq_true rfl⟩ dX_keeps_29 rfl rfl (Nat.le_of_ble_eq_true rfl) ?_
  obtain ⟨u40, cu40, hf⟩ := bnd hf
  obtain ⟨h6, j7, e39, hf⟩ := bndp hf
  refine v_M1 (pc := 32) (As := [.long j3, .long j5]) (rest := []) lmX_252 cu40 (sMo_times e39) ⟨Nat.le_of_ble_eq_true rfl, Nat.le_of_ble_eq_true rfl, Nat.le_of_ble_eq_true rfl, Nat.le_of_ble_eq_true rfl⟩ dX_keeps_32 rfl rfl (Nat.le_of_ble_eq_true rfl) ?_
  refine v_lstore (pc := 35) (ls' := [some (.ref x0), some (.ref x1), some (.int x2), some (.int x3), some (.long j7), none, none, none]) dX_keeps_35 (by decide) rfl ?_
  refine v_aload_n (i := 0) (pc := 37) dX_keeps_37 rfl rfl ?_
  refine v_getR (pc := 38) fgX_12 dX_keeps_38 hf (fun a8 hf => ?_)
  refine v_aload_n (i := 1) (pc := 41) dX_keeps_41 rfl rfl ?_
  refine v_iload_n (i := 3) (pc := 42) dX_keeps_42 rfl rfl ?_
  obtain ⟨u38, cu38, hf⟩ := bnd hf
  obtain ⟨h9, j10, e37, hf⟩ := bndp hf
  refine v_M1 (pc := 43) (As := [.int x3]) (rest := [.ref a8]) lmX_187 cu38 (sSg_b e37) ⟨Nat.le_of_ble_eq_true rfl, Nat.le_of_ble_eq_true rfl, Nat.le_of_ble_eq_true rfl, Nat.le_of_ble_eq_true rfl⟩ dX_keeps_43 rfl rfl (Nat.le_of_ble_eq_true rfl) ?_
  refine v_aload_n (i := 1) (pc := 46) dX_keeps_46 rfl rfl ?_
  refine v_iload_n (i := 3) (pc := 47) dX_keeps_47 rfl rfl ?_
  refine v_iload_n (i := 2) (pc := 48) dX_keeps_48 rfl rfl ?_
  obtain ⟨u36, cu36, hf⟩ := bnd hf
  obtain ⟨h11, j12, e35, hf⟩ := bndp hf
  refine v_M1 (pc := 49) (As := [.int x3, .int x2]) (rest := [.long j10, .ref a8]) lmX_191 cu36 (sSg_a e35) ⟨Nat.le_of_ble_eq_true rfl, Nat.le_of_ble_eq_true rfl, Nat.le_of_ble_eq_true rfl, Nat.le_of_ble_eq_true rfl⟩ dX_keeps_49 rfl rfl (Nat.le_of_ble_eq_true rfl) ?_
  obtain ⟨u34, cu34, hf⟩ := bnd hf
  obtain ⟨h13, j14, e33, hf⟩ := bndp hf
  refine v_M1 (pc := 52) (As := [.long j10, .long j12]) (rest := []) lmX_252 cu34 (sMo_times e33) ⟨Nat.le_of_ble_eq_true rfl, Nat.le_of_ble_eq_true rfl, Nat.le_of_ble_eq_true rfl, Nat.le_of_ble_eq_true rfl⟩ dX_keeps_52 rfl rfl (Nat.le_of_ble_eq_true rfl) ?_
  refine v_lstore (pc := 55) (ls' := [some (.ref x0), some (.ref x1), some (.int x2), some (.int x3), some (.long j7), none, some (.long j14), none]) dX_keeps_55 (by decide) rfl ?_
  refine v_aload_n (i := 0) (pc := 57) dX_keeps_57 rfl rfl ?_
  refine v_getR (pc := 58) fgX_12 dX_keeps_58 hf (fun a15 hf => ?_)
  refine v_lload (pc := 61) dX_keeps_61 rfl ?_
  refine v_lload (pc := 63) dX_keeps_63 rfl ?_
  obtain ⟨u32, cu32, hf⟩ := bnd hf
  obtain ⟨h16, j17, e31, hf⟩ := bndp hf
  refine v_M1 (pc := 65) (As := [.long j7, .long j14]) (rest := []) lmX_297 cu32 (sMo_plus e31) ⟨Nat.le_of_ble_eq_true rfl, Nat.le_of_ble_eq_true rfl, Nat.le_of_ble_eq_true rfl, Nat.le_of_ble_eq_true rfl⟩ dX_keeps_65 rfl rfl (Nat.le_of_ble_eq_true rfl) ?_
  refine v_aload_n (i := 0) (pc := 68) dX_keeps_68 rfl rfl ?_
  refine v_getR (pc := 69) fgX_12 dX_keeps_69 hf (fun a18 hf => ?_)
  refine v_aload_n (i := 1) (pc := 72) dX_keeps_72 rfl rfl ?_
  refine v_iload_n (i := 2) (pc := 73) dX_keeps_73 rfl rfl ?_
  obtain ⟨u30, cu30, hf⟩ := bnd hf
  obtain ⟨h19, j20, e29, hf⟩ := bndp hf
  refine v_M1 (pc := 74) (As := [.int x2]) (rest := [.ref a18, .long j17]) lmX_187 cu30 (sSg_b e29) ⟨Nat.le_of_ble_eq_true rfl, Nat.le_of_ble_eq_true rfl, Nat.le_of_ble_eq_true rfl, Nat.le_of_ble_eq_true rfl⟩ dX_keeps_74 rfl rfl (Nat.le_of_ble_eq_true rfl) ?_
  refine v_aload_n (i := 1) (pc := 77) dX_keeps_77 rfl rfl ?_
  refine v_iload_n (i := 3) (pc := 78) dX_keeps_78 rfl rfl ?_
  obtain ⟨u28, cu28, hf⟩ := bnd hf
  obtain ⟨h21, j22, e27, hf⟩ := bndp hf
  refine v_M1 (pc := 79) (As := [.int x3]) (rest := [.long j20, .ref a18, .long j17]) lmX_187 cu28 (sSg_b e27) ⟨Nat.le_of_ble_eq_true rfl, Nat.le_of_ble_eq_true rfl, Nat.le_of_ble_eq_true rfl, Nat.le_of_ble_eq_true rfl⟩ dX_keeps_79 rfl rfl (Nat.le_of_ble_eq_true rfl) ?_
  obtain ⟨u26, cu26, hf⟩ := bnd hf
  obtain ⟨h23, j24, e25, hf⟩ := bndp hf
  refine v_M1 (pc := 82) (As := [.long j20, .long j22]) (rest := [.long j17]) lmX_252 cu26 (sMo_times e25) ⟨Nat.le_of_ble_eq_true rfl, Nat.le_of_ble_eq_true rfl, Nat.le_of_ble_eq_true rfl, Nat.le_of_ble_eq_true rfl⟩ dX_keeps_82 rfl rfl (Nat.le_of_ble_eq_true rfl) ?_
  refine v_lcmp_eq (pc := 85) (tgt := 91) dX_keeps_85 dX_keeps_86 rfl hf (fun hf => ?_) (fun hf => ?_)
  rotate_left
  · refine v_iconst (pc := 89) (0:Int32) dX_keeps_89 rfl ?_
    exact v_zret (pc := 90) dX_keeps_90 (by decide) (by decide) hf
  refine v_iinc (pc := 91) (v := (x3 + (1:Int32))) (ls' := [some (.ref x0), some (.ref x1), some (.int x2), some (.int (x3 + (1:Int32))), some (.long j7), none, some (.long j14), none]) dX_keeps_91 rfl rfl (by decide) rfl ?_
  refine v_goto (pc := 94) (tgt := 12) dX_keeps_94 rfl ?_
  refine v_wk (ls' := [some (.ref x0), some (.ref x1), some (.int x2), some (.int (x3 + (1:Int32))), none, none, none, none]) ⟨rfl, rfl, rfl, rfl, trivial⟩ ?_
  exact hk12 h23 x0 x1 x2 (x3 + (1:Int32)) hf
def bX_keeps_2 (n : Nat) (k2 : (MH × Nat × Nat × Int32) → Option (MH × Int32)) (h : MH) (x0 : Nat) (x1 : Nat) (x2 : Int32) : Option (MH × Int32) := ((gfI h x1 [7] 0).bind fun i1 => (if i1 ≤ x2 then (retZ h (1:Int32)) else (fX_keeps_12 k2 n h x0 x1 x2 (0:Int32))))
def fX_keeps_2 (n : Nat) (h : MH) (x0 : Nat) (x1 : Nat) (x2 : Int32) : Option (MH × Int32) := lp (fun n k s => bX_keeps_2 n k s.1 s.2.1 s.2.2.1 s.2.2.2) n (h, x0, x1, x2)
set_option maxRecDepth 20000 in
set_option maxHeartbeats 4000000 in
theorem tX_keeps_2 {g : Gh} {h' : MH} {r' : Int32} (n : Nat) (h : MH) (x0 : Nat) (x1 : Nat) (x2 : Int32) (hf : fX_keeps_2 n h x0 x1 x2 = some (h', r')) : V g yX_keeps cX_keeps 8 (some .boolean) rmX_keeps (ZQ g rmX_keeps h' (some (.int r'))) 0 0 h 2 [some (.ref x0), some (.ref x1), some (.int x2), none, none, none, none, none] [] := by
  unfold fX_keeps_2 at hf
  refine lp_ind (P := fun s => V g yX_keeps cX_keeps 8 (some .boolean) rmX_keeps (ZQ g rmX_keeps h' (some (.int r'))) 0 0 s.1 2 [some (.ref s.2.1), some (.ref s.2.2.1), some (.int s.2.2.2), none, none, none, none, none] []) (fun n k2 hk2 s hf => ?_) n (h, x0, x1, x2) hf
  obtain ⟨h, x0, x1, x2⟩ := s
  replace hk2 : ∀ (h : MH) (x0 : Nat) (x1 : Nat) (x2 : Int32), k2 (h, x0, x1, x2) = some (h', r') → V g yX_keeps cX_keeps 8 (some .boolean) rmX_keeps (ZQ g rmX_keeps h' (some (.int r'))) 0 0 h 2 [some (.ref x0), some (.ref x1), some (.int x2), none, none, none, none, none] [] := fun h x0 x1 x2 => hk2 (h, x0, x1, x2)
  replace hf : bX_keeps_2 n k2 h x0 x1 x2 = some (h', r') := hf
  change V g yX_keeps cX_keeps 8 (some .boolean) rmX_keeps (ZQ g rmX_keeps h' (some (.int r'))) 0 0 h 2 [some (.ref x0), some (.ref x1), some (.int x2), none, none, none, none, none] []
  unfold bX_keeps_2 at hf
  refine v_iload_n (i := 2) (pc := 2) dX_keeps_2 rfl rfl ?_
  refine v_aload_n (i := 1) (pc := 3) dX_keeps_3 rfl rfl ?_
  refine v_getI (pc := 4) fgX_164 dX_keeps_4 hf (fun i1 hf => ?_)
  refine v_icmp_ge (pc := 7) (tgt := 103) dX_keeps_7 rfl hf (fun hf => ?_) (fun hf => ?_)
  · refine v_iconst (pc := 103) (1:Int32) dX_keeps_103 rfl ?_
    exact v_zret (pc := 104) dX_keeps_104 (by decide) (by decide) hf
  refine v_iconst (pc := 10) (0:Int32) dX_keeps_10 rfl ?_
  refine v_istore_n (i := 3) (pc := 11) (ls' := [some (.ref x0), some (.ref x1), some (.int x2), some (.int (0:Int32)), none, none, none, none]) dX_keeps_11 rfl (by decide) rfl ?_
  refine v_wk (ls' := [some (.ref x0), some (.ref x1), some (.int x2), some (.int (0:Int32)), none, none, none, none]) ⟨rfl, rfl, rfl, rfl, trivial⟩ ?_
  exact tX_keeps_12 hk2 n h x0 x1 x2 (0:Int32) hf
def fX_keeps (n : Nat) (h : MH) (a_0 : Nat) (a_1 : Nat) : Option (MH × Int32) := (fX_keeps_2 n h a_0 a_1 (0:Int32))
set_option maxRecDepth 20000 in
set_option maxHeartbeats 4000000 in
theorem sX_keeps {g : Gh} {h' : MH} {r' : Int32} {n : Nat} {h : MH} {a_0 : Nat} {a_1 : Nat} (hf : fX_keeps n h a_0 a_1 = some (h', r')) : Sp g yX_keeps cX_keeps 8 (some .boolean) rmX_keeps h [.ref a_0, .ref a_1] h' (some (.int r')) := by
  refine sp_of (by decide) (Nat.le_of_ble_eq_true rfl) ?_
  change V g yX_keeps cX_keeps 8 (some .boolean) rmX_keeps (ZQ g rmX_keeps h' (some (.int r'))) 0 0 h 0 [some (.ref a_0), some (.ref a_1), none, none, none, none, none, none] []
  unfold fX_keeps at hf
  refine v_iconst (pc := 0) (0:Int32) dX_keeps_0 rfl ?_
  refine v_istore_n (i := 2) (pc := 1) (ls' := [some (.ref a_0), some (.ref a_1), some (.int (0:Int32)), none, none, none, none, none]) dX_keeps_1 rfl (by decide) rfl ?_
  refine v_wk (ls' := [some (.ref a_0), some (.ref a_1), some (.int (0:Int32)), none, none, none, none, none]) ⟨rfl, rfl, rfl, trivial⟩ ?_
  exact tX_keeps_2 n h a_0 a_1 (0:Int32) hf
abbrev rmKe_init : Room := { frames := 2, cells := 0, slots := 0, locals := 44 }
def fKe_init (h : MH) (a_0 : Nat) (a_1 : Nat) (a_2 : Nat) (i_3 : Int32) (i_4 : Int32) : Option MH := ((fTa_init h a_0 a_1 a_2 i_3 i_4).bind fun h1 => (some h1))
set_option maxRecDepth 20000 in
set_option maxHeartbeats 4000000 in
theorem sKe_init {g : Gh} {h' : MH} {h : MH} {a_0 : Nat} {a_1 : Nat} {a_2 : Nat} {i_3 : Int32} {i_4 : Int32} (hf : fKe_init h a_0 a_1 a_2 i_3 i_4 = some h') : Sp g yKe_init cKe_init 5 none rmKe_init h [.ref a_0, .ref a_1, .ref a_2, .int i_3, .int i_4] h' none := by
  refine sp_of (by decide) (Nat.le_of_ble_eq_true rfl) ?_
  change V g yKe_init cKe_init 5 none rmKe_init (ZQ g rmKe_init h' none) 0 0 h 0 [some (.ref a_0), some (.ref a_1), some (.ref a_2), some (.int i_3), some (.int i_4)] []
  unfold fKe_init at hf
  refine v_aload_n (i := 0) (pc := 0) dKe_init_0 rfl rfl ?_
  refine v_aload_n (i := 1) (pc := 1) dKe_init_1 rfl rfl ?_
  refine v_aload_n (i := 2) (pc := 2) dKe_init_2 rfl rfl ?_
  refine v_iload_n (i := 3) (pc := 3) dKe_init_3 rfl rfl ?_
  refine v_iload (pc := 4) dKe_init_4 rfl ?_
  obtain ⟨h1, e2, hf⟩ := bnd hf
  refine v_I0 (pc := 6) (As := [.ref a_1, .ref a_2, .int i_3, .int i_4]) (rest := []) liKe_3 (sTa_init e2) ⟨Nat.le_of_ble_eq_true rfl, Nat.le_of_ble_eq_true rfl, Nat.le_of_ble_eq_true rfl, Nat.le_of_ble_eq_true rfl⟩ dKe_init_6 rfl rfl (Nat.le_of_ble_eq_true rfl) ?_
  exact v_vret (pc := 9) dKe_init_9 (by decide) (by decide) hf
abbrev rmX_toldTable : Room := { frames := 4, cells := 1, slots := 4, locals := 92 }
def fX_toldTable_28 (n : Nat) (h : MH) (s0 : Int32) (x0 : Nat) (x1 : Nat) (x2 : Nat) (x3 : Int32) : Option (MH × Nat) := ((chk h x1 7).bind fun _ => (bnd2 (fSg_zeroFrom n h x1 (0:Int32)) fun h1 i2 => (if i2 = (0:Int32) then ((chk h1 x0 11).bind fun _ => (bnd2 (fX_keeps n h1 x0 x1) fun h3 i4 => (if i4 = (0:Int32) then ((chk h3 x1 7).bind fun _ => (bnd2 (fSg_zeroFrom n h3 x1 (1:Int32)) fun h5 i6 => (if i6 = (0:Int32) then (alc h5 (cO 8 [.null, .null, .int 0, .int 0]) fun h7 a8 => ((fTa_init h7 a8 x1 x2 x3 s0).bind fun h9 => (some (h9, a8)))) else (alc h5 (cO 2 [.null, .null, .int 0, .int 0]) fun h11 a12 => ((fLo_init h11 a12 x1 x2 x3 s0).bind fun h13 => (some (h13, a12))))))) else (alc h3 (cO 1 [.null, .null, .int 0, .int 0]) fun h17 a18 => ((fKe_init h17 a18 x1 x2 x3 s0).bind fun h19 => (some (h19, a18))))))) else (alc h1 (cO 4 [.null, .null, .int 0, .int 0]) fun h23 a24 => ((fPl_init h23 a24 x1 x2 x3 s0).bind fun h25 => (some (h25, a24)))))))
set_option maxRecDepth 20000 in
set_option maxHeartbeats 4000000 in
theorem tX_toldTable_28 {g : Gh} {h' : MH} {r' : Nat} (n : Nat) (h : MH) (s0 : Int32) (x0 : Nat) (x1 : Nat) (x2 : Nat) (x3 : Int32) (hf : fX_toldTable_28 n h s0 x0 x1 x2 x3 = some (h', r')) : V g yX_toldTable cX_toldTable 5 (some (.object "TreeSteps$Table")) rmX_toldTable (ZQ g rmX_toldTable h' (some (.ref r'))) 0 0 h 28 [some (.ref x0), some (.ref x1), some (.ref x2), some (.int x3), none] [.int s0] := by
  unfold fX_toldTable_28 at hf
  refine v_istore (pc := 28) (ls' := [some (.ref x0), some (.ref x1), some (.ref x2), some (.int x3), some (.int s0)]) dX_toldTable_28 (by decide) rfl ?_
  refine v_aload_n (i := 1) (pc := 30) dX_toldTable_30 rfl rfl ?_
  refine v_iconst (pc := 31) (0:Int32) dX_toldTable_31 rfl ?_
  obtain ⟨u28, cu28, hf⟩ := bnd hf
  obtain ⟨h1, i2, e27, hf⟩ := bndp hf
  refine v_M1 (pc := 32) (As := [.int (0:Int32)]) (rest := []) lmX_278 cu28 (sSg_zeroFrom e27) ⟨Nat.le_of_ble_eq_true rfl, Nat.le_of_ble_eq_true rfl, Nat.le_of_ble_eq_true rfl, Nat.le_of_ble_eq_true rfl⟩ dX_toldTable_32 rfl rfl (Nat.le_of_ble_eq_true rfl) ?_
  refine v_if_eq (pc := 35) (tgt := 51) dX_toldTable_35 rfl hf (fun hf => ?_) (fun hf => ?_)
  rotate_left
  · refine v_new (pc := 38) noX_281 dX_toldTable_38 (Nat.le_of_ble_eq_true rfl) (Nat.le_of_ble_eq_true rfl) hf (fun h23 a24 hf => ?_)
    refine v_dup (pc := 41) dX_toldTable_41 rfl ?_
    refine v_aload_n (i := 1) (pc := 42) dX_toldTable_42 rfl rfl ?_
    refine v_aload_n (i := 2) (pc := 43) dX_toldTable_43 rfl rfl ?_
    refine v_iload_n (i := 3) (pc := 44) dX_toldTable_44 rfl rfl ?_
    refine v_iload (pc := 45) dX_toldTable_45 rfl ?_
    obtain ⟨h25, e26, hf⟩ := bnd hf
    refine v_I0 (pc := 47) (As := [.ref x1, .ref x2, .int x3, .int s0]) (rest := [.ref a24]) liX_283 (sPl_init e26) ⟨Nat.le_of_ble_eq_true rfl, Nat.le_of_ble_eq_true rfl, Nat.le_of_ble_eq_true rfl, Nat.le_of_ble_eq_true rfl⟩ dX_toldTable_47 rfl rfl (Nat.le_of_ble_eq_true rfl) ?_
    exact v_aret (pc := 50) dX_toldTable_50 (Or.inl ⟨_, rfl⟩) (by decide) (by decide) hf
  refine v_aload_n (i := 0) (pc := 51) dX_toldTable_51 rfl rfl ?_
  refine v_aload_n (i := 1) (pc := 52) dX_toldTable_52 rfl rfl ?_
  obtain ⟨u22, cu22, hf⟩ := bnd hf
  obtain ⟨h3, i4, e21, hf⟩ := bndp hf
  refine v_M1 (pc := 53) (As := [.ref x1]) (rest := []) lmX_286 cu22 (sX_keeps e21) ⟨Nat.le_of_ble_eq_true rfl, Nat.le_of_ble_eq_true rfl, Nat.le_of_ble_eq_true rfl, Nat.le_of_ble_eq_true rfl⟩ dX_toldTable_53 rfl rfl (Nat.le_of_ble_eq_true rfl) ?_
  refine v_if_eq (pc := 56) (tgt := 72) dX_toldTable_56 rfl hf (fun hf => ?_) (fun hf => ?_)
  rotate_left
  · refine v_new (pc := 59) noX_290 dX_toldTable_59 (Nat.le_of_ble_eq_true rfl) (Nat.le_of_ble_eq_true rfl) hf (fun h17 a18 hf => ?_)
    refine v_dup (pc := 62) dX_toldTable_62 rfl ?_
    refine v_aload_n (i := 1) (pc := 63) dX_toldTable_63 rfl rfl ?_
    refine v_aload_n (i := 2) (pc := 64) dX_toldTable_64 rfl rfl ?_
    refine v_iload_n (i := 3) (pc := 65) dX_toldTable_65 rfl rfl ?_
    refine v_iload (pc := 66) dX_toldTable_66 rfl ?_
    obtain ⟨h19, e20, hf⟩ := bnd hf
    refine v_I0 (pc := 68) (As := [.ref x1, .ref x2, .int x3, .int s0]) (rest := [.ref a18]) liX_292 (sKe_init e20) ⟨Nat.le_of_ble_eq_true rfl, Nat.le_of_ble_eq_true rfl, Nat.le_of_ble_eq_true rfl, Nat.le_of_ble_eq_true rfl⟩ dX_toldTable_68 rfl rfl (Nat.le_of_ble_eq_true rfl) ?_
    exact v_aret (pc := 71) dX_toldTable_71 (Or.inl ⟨_, rfl⟩) (by decide) (by decide) hf
  refine v_aload_n (i := 1) (pc := 72) dX_toldTable_72 rfl rfl ?_
  refine v_iconst (pc := 73) (1:Int32) dX_toldTable_73 rfl ?_
  obtain ⟨u16, cu16, hf⟩ := bnd hf
  obtain ⟨h5, i6, e15, hf⟩ := bndp hf
  refine v_M1 (pc := 74) (As := [.int (1:Int32)]) (rest := []) lmX_278 cu16 (sSg_zeroFrom e15) ⟨Nat.le_of_ble_eq_true rfl, Nat.le_of_ble_eq_true rfl, Nat.le_of_ble_eq_true rfl, Nat.le_of_ble_eq_true rfl⟩ dX_toldTable_74 rfl rfl (Nat.le_of_ble_eq_true rfl) ?_
  refine v_if_eq (pc := 77) (tgt := 93) dX_toldTable_77 rfl hf (fun hf => ?_) (fun hf => ?_)
  · refine v_new (pc := 93) noX_57 dX_toldTable_93 (Nat.le_of_ble_eq_true rfl) (Nat.le_of_ble_eq_true rfl) hf (fun h7 a8 hf => ?_)
    refine v_dup (pc := 96) dX_toldTable_96 rfl ?_
    refine v_aload_n (i := 1) (pc := 97) dX_toldTable_97 rfl rfl ?_
    refine v_aload_n (i := 2) (pc := 98) dX_toldTable_98 rfl rfl ?_
    refine v_iload_n (i := 3) (pc := 99) dX_toldTable_99 rfl rfl ?_
    refine v_iload (pc := 100) dX_toldTable_100 rfl ?_
    obtain ⟨h9, e10, hf⟩ := bnd hf
    refine v_I0 (pc := 102) (As := [.ref x1, .ref x2, .int x3, .int s0]) (rest := [.ref a8]) liX_296 (sTa_init e10) ⟨Nat.le_of_ble_eq_true rfl, Nat.le_of_ble_eq_true rfl, Nat.le_of_ble_eq_true rfl, Nat.le_of_ble_eq_true rfl⟩ dX_toldTable_102 rfl rfl (Nat.le_of_ble_eq_true rfl) ?_
    exact v_aret (pc := 105) dX_toldTable_105 (Or.inl ⟨_, rfl⟩) (by decide) (by decide) hf
  refine v_new (pc := 80) noX_293 dX_toldTable_80 (Nat.le_of_ble_eq_true rfl) (Nat.le_of_ble_eq_true rfl) hf (fun h11 a12 hf => ?_)
  refine v_dup (pc := 83) dX_toldTable_83 rfl ?_
  refine v_aload_n (i := 1) (pc := 84) dX_toldTable_84 rfl rfl ?_
  refine v_aload_n (i := 2) (pc := 85) dX_toldTable_85 rfl rfl ?_
  refine v_iload_n (i := 3) (pc := 86) dX_toldTable_86 rfl rfl ?_
  refine v_iload (pc := 87) dX_toldTable_87 rfl ?_
  obtain ⟨h13, e14, hf⟩ := bnd hf
  refine v_I0 (pc := 89) (As := [.ref x1, .ref x2, .int x3, .int s0]) (rest := [.ref a12]) liX_295 (sLo_init e14) ⟨Nat.le_of_ble_eq_true rfl, Nat.le_of_ble_eq_true rfl, Nat.le_of_ble_eq_true rfl, Nat.le_of_ble_eq_true rfl⟩ dX_toldTable_89 rfl rfl (Nat.le_of_ble_eq_true rfl) ?_
  exact v_aret (pc := 92) dX_toldTable_92 (Or.inl ⟨_, rfl⟩) (by decide) (by decide) hf
def fX_toldTable (n : Nat) (h : MH) (a_0 : Nat) (a_1 : Nat) (a_2 : Nat) : Option (MH × Nat) := ((chk h a_0 11).bind fun _ => (bnd2 (fX_firstMisfit n h a_0 a_2) fun h1 i2 => (if i2 = (-1000000:Int32) then (fX_toldTable_28 n h1 (6:Int32) a_0 a_1 a_2 i2) else ((gfR h1 a_0 [11] 1).bind fun a3 => ((gfR h1 a3 [0] 1).bind fun a4 => ((rdI h1 a4 i2).bind fun i5 => (fX_toldTable_28 n h1 (i5 - (1:Int32)) a_0 a_1 a_2 i2)))))))
set_option maxRecDepth 20000 in
set_option maxHeartbeats 4000000 in
theorem sX_toldTable {g : Gh} {h' : MH} {r' : Nat} {n : Nat} {h : MH} {a_0 : Nat} {a_1 : Nat} {a_2 : Nat} (hf : fX_toldTable n h a_0 a_1 a_2 = some (h', r')) : Sp g yX_toldTable cX_toldTable 5 (some (.object "TreeSteps$Table")) rmX_toldTable h [.ref a_0, .ref a_1, .ref a_2] h' (some (.ref r')) := by
  refine sp_of (by decide) (Nat.le_of_ble_eq_true rfl) ?_
  change V g yX_toldTable cX_toldTable 5 (some (.object "TreeSteps$Table")) rmX_toldTable (ZQ g rmX_toldTable h' (some (.ref r'))) 0 0 h 0 [some (.ref a_0), some (.ref a_1), some (.ref a_2), none, none] []
  unfold fX_toldTable at hf
  refine v_aload_n (i := 0) (pc := 0) dX_toldTable_0 rfl rfl ?_
  refine v_aload_n (i := 2) (pc := 1) dX_toldTable_1 rfl rfl ?_
  obtain ⟨u7, cu7, hf⟩ := bnd hf
  obtain ⟨h1, i2, e6, hf⟩ := bndp hf
  refine v_M1 (pc := 2) (As := [.ref a_2]) (rest := []) lmX_274 cu7 (sX_firstMisfit e6) ⟨Nat.le_of_ble_eq_true rfl, Nat.le_of_ble_eq_true rfl, Nat.le_of_ble_eq_true rfl, Nat.le_of_ble_eq_true rfl⟩ dX_toldTable_2 rfl rfl (Nat.le_of_ble_eq_true rfl) ?_
  refine v_istore_n (i := 3) (pc := 5) (ls' := [some (.ref a_0), some (.ref a_1), some (.ref a_2), some (.int i2), none]) dX_toldTable_5 rfl (by decide) rfl ?_
  refine v_iload_n (i := 3) (pc := 6) dX_toldTable_6 rfl rfl ?_
  refine v_ldc (pc := 7) dX_toldTable_7 kiX_135 ?_
  refine v_icmp_ne (pc := 9) (tgt := 17) dX_toldTable_9 rfl hf (fun hf => ?_) (fun hf => ?_)
  · refine v_bipush (pc := 12) (6:Int32) dX_toldTable_12 rfl ?_
    refine v_goto (pc := 14) (tgt := 28) dX_toldTable_14 rfl ?_
    refine v_wk (ls' := [some (.ref a_0), some (.ref a_1), some (.ref a_2), some (.int i2), none]) ⟨rfl, rfl, rfl, rfl, trivial⟩ ?_
    exact tX_toldTable_28 n h1 (6:Int32) a_0 a_1 a_2 i2 hf
  refine v_aload_n (i := 0) (pc := 17) dX_toldTable_17 rfl rfl ?_
  refine v_getR (pc := 18) fgX_21 dX_toldTable_18 hf (fun a3 hf => ?_)
  refine v_getR (pc := 21) fgX_122 dX_toldTable_21 hf (fun a4 hf => ?_)
  refine v_iload_n (i := 3) (pc := 24) dX_toldTable_24 rfl rfl ?_
  refine v_iald (pc := 25) dX_toldTable_25 hf (fun i5 hf => ?_)
  refine v_iconst (pc := 26) (1:Int32) dX_toldTable_26 rfl ?_
  refine v_isub (pc := 27) dX_toldTable_27 ?_
  refine v_wk (ls' := [some (.ref a_0), some (.ref a_1), some (.ref a_2), some (.int i2), none]) ⟨rfl, rfl, rfl, rfl, trivial⟩ ?_
  exact tX_toldTable_28 n h1 (i5 - (1:Int32)) a_0 a_1 a_2 i2 hf
abbrev rmTa_told : Room := { frames := 0, cells := 0, slots := 0, locals := 0 }
def fTa_told (h : MH) (a_0 : Nat) : Option (MH × Int32) := (some (h, (0:Int32)))
set_option maxRecDepth 20000 in
set_option maxHeartbeats 4000000 in
theorem sTa_told {g : Gh} {h' : MH} {r' : Int32} {h : MH} {a_0 : Nat} (hf : fTa_told h a_0 = some (h', r')) : Sp g yTa_told cTa_told 1 (some .int) rmTa_told h [.ref a_0] h' (some (.int r')) := by
  refine sp_of (by decide) (Nat.le_of_ble_eq_true rfl) ?_
  change V g yTa_told cTa_told 1 (some .int) rmTa_told (ZQ g rmTa_told h' (some (.int r'))) 0 0 h 0 [some (.ref a_0)] []
  unfold fTa_told at hf
  refine v_iconst (pc := 0) (0:Int32) dTa_told_0 rfl ?_
  exact v_iret (pc := 1) dTa_told_1 (by decide) (by decide) hf
abbrev rmLo_told : Room := { frames := 0, cells := 0, slots := 0, locals := 0 }
def fLo_told (h : MH) (a_0 : Nat) : Option (MH × Int32) := (some (h, (1:Int32)))
set_option maxRecDepth 20000 in
set_option maxHeartbeats 4000000 in
theorem sLo_told {g : Gh} {h' : MH} {r' : Int32} {h : MH} {a_0 : Nat} (hf : fLo_told h a_0 = some (h', r')) : Sp g yLo_told cLo_told 1 (some .int) rmLo_told h [.ref a_0] h' (some (.int r')) := by
  refine sp_of (by decide) (Nat.le_of_ble_eq_true rfl) ?_
  change V g yLo_told cLo_told 1 (some .int) rmLo_told (ZQ g rmLo_told h' (some (.int r'))) 0 0 h 0 [some (.ref a_0)] []
  unfold fLo_told at hf
  refine v_iconst (pc := 0) (1:Int32) dLo_told_0 rfl ?_
  exact v_iret (pc := 1) dLo_told_1 (by decide) (by decide) hf
abbrev rmPl_told : Room := { frames := 0, cells := 0, slots := 0, locals := 0 }
def fPl_told (h : MH) (a_0 : Nat) : Option (MH × Int32) := (some (h, (2:Int32)))
set_option maxRecDepth 20000 in
set_option maxHeartbeats 4000000 in
theorem sPl_told {g : Gh} {h' : MH} {r' : Int32} {h : MH} {a_0 : Nat} (hf : fPl_told h a_0 = some (h', r')) : Sp g yPl_told cPl_told 1 (some .int) rmPl_told h [.ref a_0] h' (some (.int r')) := by
  refine sp_of (by decide) (Nat.le_of_ble_eq_true rfl) ?_
  change V g yPl_told cPl_told 1 (some .int) rmPl_told (ZQ g rmPl_told h' (some (.int r'))) 0 0 h 0 [some (.ref a_0)] []
  unfold fPl_told at hf
  refine v_iconst (pc := 0) (2:Int32) dPl_told_0 rfl ?_
  exact v_iret (pc := 1) dPl_told_1 (by decide) (by decide) hf
abbrev rmKe_told : Room := { frames := 0, cells := 0, slots := 0, locals := 0 }
def fKe_told (h : MH) (a_0 : Nat) : Option (MH × Int32) := (some (h, (3:Int32)))
set_option maxRecDepth 20000 in
set_option maxHeartbeats 4000000 in
theorem sKe_told {g : Gh} {h' : MH} {r' : Int32} {h : MH} {a_0 : Nat} (hf : fKe_told h a_0 = some (h', r')) : Sp g yKe_told cKe_told 1 (some .int) rmKe_told h [.ref a_0] h' (some (.int r')) := by
  refine sp_of (by decide) (Nat.le_of_ble_eq_true rfl) ?_
  change V g yKe_told cKe_told 1 (some .int) rmKe_told (ZQ g rmKe_told h' (some (.int r'))) 0 0 h 0 [some (.ref a_0)] []
  unfold fKe_told at hf
  refine v_iconst (pc := 0) (3:Int32) dKe_told_0 rfl ?_
  exact v_iret (pc := 1) dKe_told_1 (by decide) (by decide) hf
def fDTa_told (h : MH) (a_0 : Nat) : Option (MH × Int32) := (tg h a_0).bind fun t => (if t = 8 then fTa_told h a_0 else (if t = 2 then fLo_told h a_0 else (if t = 4 then fPl_told h a_0 else (if t = 1 then fKe_told h a_0 else none))))
theorem dDTa_told {g : Gh} {h h' : MH} {r' : Int32} {a_0 : Nat} (e : fDTa_told h a_0 = some (h', r')) : SD g yTa_told (some .int) 0 1 20 h a_0 [] h' (some (.int r')) := by
  unfold fDTa_told at e
  obtain ⟨t, et, e⟩ := bnd e
  by_cases h8 : t = 8
  · subst h8
    exact ⟨8, RTa, TTa, 4, yTa_told, cTa_told, 1, rmTa_told, rfl, gw 505 (by decide +kernel) (by decide +kernel), gw 506 (by decide +kernel) (by decide +kernel), lcTa_told, chk_tg et, sTa_told (if_t e rfl), by decide, by decide, rfl, rfl⟩
  replace e := if_f e h8
  by_cases h2 : t = 2
  · subst h2
    exact ⟨2, RLo, TLo, 4, yLo_told, cLo_told, 1, rmLo_told, rfl, gw 512 (by decide +kernel) (by decide +kernel), gw 511 (by decide +kernel) (by decide +kernel), lcLo_told, chk_tg et, sLo_told (if_t e rfl), by decide, by decide, rfl, rfl⟩
  replace e := if_f e h2
  by_cases h4 : t = 4
  · subst h4
    exact ⟨4, RPl, TPl, 4, yPl_told, cPl_told, 1, rmPl_told, rfl, gw 515 (by decide +kernel) (by decide +kernel), gw 514 (by decide +kernel) (by decide +kernel), lcPl_told, chk_tg et, sPl_told (if_t e rfl), by decide, by decide, rfl, rfl⟩
  replace e := if_f e h4
  by_cases h1 : t = 1
  · subst h1
    exact ⟨1, RKe, TKe, 4, yKe_told, cKe_told, 1, rmKe_told, rfl, gw 509 (by decide +kernel) (by decide +kernel), gw 508 (by decide +kernel) (by decide +kernel), lcKe_told, chk_tg et, sKe_told (if_t e rfl), by decide, by decide, rfl, rfl⟩
  replace e := if_f e h1
  cases e
abbrev rmX_shelve : Room := { frames := 5, cells := 2, slots := 41, locals := 116 }
def fX_shelve (n : Nat) (h : MH) (a_0 : Nat) (i_1 : Int32) (a_2 : Nat) : Option (MH × Int32) := ((gfR h a_0 [11] 2).bind fun a1 => ((chk h a1 10).bind fun _ => (bnd2 (fWe_weights n h a1 a_2) fun h2 a3 => ((chk h2 a_0 11).bind fun _ => (bnd2 (fX_toldTable n h2 a_0 a_2 a3) fun h4 a5 => ((gfR h4 a_0 [11] 6).bind fun a6 => ((wrO h4 a6 4 i_1 a5).bind fun h7 => (bnd2 (fDTa_told h7 a5) fun h8 i9 => ((chk h8 a_0 11).bind fun _ => (bnd2 (fX_well h8 a_0 i9) fun h10 i11 => (some (h10, i11))))))))))))
set_option maxRecDepth 20000 in
set_option maxHeartbeats 4000000 in
theorem sX_shelve {g : Gh} {h' : MH} {r' : Int32} {n : Nat} {h : MH} {a_0 : Nat} {i_1 : Int32} {a_2 : Nat} (hf : fX_shelve n h a_0 i_1 a_2 = some (h', r')) : Sp g yX_shelve cX_shelve 4 (some .int) rmX_shelve h [.ref a_0, .int i_1, .ref a_2] h' (some (.int r')) := by
  refine sp_of (by decide) (Nat.le_of_ble_eq_true rfl) ?_
  change V g yX_shelve cX_shelve 4 (some .int) rmX_shelve (ZQ g rmX_shelve h' (some (.int r'))) 0 0 h 0 [some (.ref a_0), some (.int i_1), some (.ref a_2), none] []
  unfold fX_shelve at hf
  refine v_aload_n (i := 0) (pc := 0) dX_shelve_0 rfl rfl ?_
  refine v_aload_n (i := 2) (pc := 1) dX_shelve_1 rfl rfl ?_
  refine v_aload_n (i := 0) (pc := 2) dX_shelve_2 rfl rfl ?_
  refine v_getR (pc := 3) fgX_30 dX_shelve_3 hf (fun a1 hf => ?_)
  refine v_aload_n (i := 2) (pc := 6) dX_shelve_6 rfl rfl ?_
  obtain ⟨u18, cu18, hf⟩ := bnd hf
  obtain ⟨h2, a3, e17, hf⟩ := bndp hf
  refine v_M1 (pc := 7) (As := [.ref a_2]) (rest := [.ref a_2, .ref a_0]) lmX_267 cu18 (sWe_weights e17) ⟨Nat.le_of_ble_eq_true rfl, Nat.le_of_ble_eq_true rfl, Nat.le_of_ble_eq_true rfl, Nat.le_of_ble_eq_true rfl⟩ dX_shelve_7 rfl rfl (Nat.le_of_ble_eq_true rfl) ?_
  obtain ⟨u16, cu16, hf⟩ := bnd hf
  obtain ⟨h4, a5, e15, hf⟩ := bndp hf
  refine v_M1 (pc := 10) (As := [.ref a_2, .ref a3]) (rest := []) lmX_270 cu16 (sX_toldTable e15) ⟨Nat.le_of_ble_eq_true rfl, Nat.le_of_ble_eq_true rfl, Nat.le_of_ble_eq_true rfl, Nat.le_of_ble_eq_true rfl⟩ dX_shelve_10 rfl rfl (Nat.le_of_ble_eq_true rfl) ?_
  refine v_astore_n (i := 3) (pc := 13) (ls' := [some (.ref a_0), some (.int i_1), some (.ref a_2), some (.ref a5)]) dX_shelve_13 rfl (by decide) rfl ?_
  refine v_aload_n (i := 0) (pc := 14) dX_shelve_14 rfl rfl ?_
  refine v_getR (pc := 15) fgX_59 dX_shelve_15 hf (fun a6 hf => ?_)
  refine v_iload_n (i := 1) (pc := 18) dX_shelve_18 rfl rfl ?_
  refine v_aload_n (i := 3) (pc := 19) dX_shelve_19 rfl rfl ?_
  refine v_aast (pc := 20) dX_shelve_20 hf (fun h7 hf => ?_)
  refine v_aload_n (i := 0) (pc := 21) dX_shelve_21 rfl rfl ?_
  refine v_aload_n (i := 3) (pc := 22) dX_shelve_22 rfl rfl ?_
  obtain ⟨h8, i9, e14, hf⟩ := bndp hf
  refine v_D1 (pc := 23) (As := []) (rest := [.ref a_0]) lxX_195 (dDTa_told e14) (by decide) dX_shelve_23 rfl rfl (Nat.le_of_ble_eq_true rfl) ?_
  obtain ⟨u13, cu13, hf⟩ := bnd hf
  obtain ⟨h10, i11, e12, hf⟩ := bndp hf
  refine v_M1 (pc := 26) (As := [.int i9]) (rest := []) lmX_80 cu13 (sX_well e12) ⟨Nat.le_of_ble_eq_true rfl, Nat.le_of_ble_eq_true rfl, Nat.le_of_ble_eq_true rfl, Nat.le_of_ble_eq_true rfl⟩ dX_shelve_26 rfl rfl (Nat.le_of_ble_eq_true rfl) ?_
  exact v_iret (pc := 29) dX_shelve_29 (by decide) (by decide) hf
abbrev rmX_table : Room := { frames := 6, cells := 4, slots := 115, locals := 139 }
def fX_table (n : Nat) (h : MH) (a_0 : Nat) (i_1 : Int32) (i_2 : Int32) (i_3 : Int32) (i_4 : Int32) : Option (MH × Int32) := (bnd2 (fX_noPlace n h i_1) fun h1 i2 => (if i2 = (0:Int32) then (bnd2 (fX_noSheet n h1 i_2) fun h3 i4 => (if i4 = (0:Int32) then (if i_4 < (1:Int32) then (some (h3, (-1000001:Int32))) else (if i_4 ≤ (4:Int32) then ((gfR h3 a_0 [11] 5).bind fun a5 => (rdRn h3 a5 3 i_2 (none : Option (MH × Int32)) fun a6 => ((chk h3 a6 6).bind fun _ => (bnd2 (fSt_missing h3 a6) fun h7 i8 => (if i8 = (0:Int32) then (alc h7 (cO 7 [.int 0, .null]) fun h9 a10 => ((fSg_init n h9 a10 i_4).bind fun h11 => ((gfR h11 a10 [7] 1).bind fun a12 => ((lenA h11 a12).bind fun i13 => ((chk h11 a6 6).bind fun _ => (bnd2 (fSt_holds h11 a6 i_3 ((2:Int32) * i13)) fun h14 i15 => (if i15 = (0:Int32) then ((chk h14 a_0 11).bind fun _ => (bnd2 (fX_found h14 a_0 (2:Int32)) fun h25 i26 => (some (h25, i26)))) else ((gfR h14 a10 [7] 1).bind fun a16 => ((chk h14 a_0 11).bind fun _ => (bnd2 (fX_readFractions n h14 a_0 a6 i_3 a16) fun h17 i18 => (if i18 = (0:Int32) then (some (h17, (-1000001:Int32))) else ((chk h17 a_0 11).bind fun _ => (bnd2 (fX_shelve n h17 a_0 i_1 a10) fun h19 i20 => (some (h19, i20))))))))))))))) else ((chk h7 a_0 11).bind fun _ => (bnd2 (fX_found h7 a_0 (1:Int32)) fun h32 i33 => (some (h32, i33))))))))) else (some (h3, (-1000001:Int32))))) else (some (h3, (-1000001:Int32))))) else (some (h1, (-1000001:Int32)))))
set_option maxRecDepth 20000 in
set_option maxHeartbeats 4000000 in
theorem sX_table {g : Gh} {h' : MH} {r' : Int32} {n : Nat} {h : MH} {a_0 : Nat} {i_1 : Int32} {i_2 : Int32} {i_3 : Int32} {i_4 : Int32} (hf : fX_table n h a_0 i_1 i_2 i_3 i_4 = some (h', r')) : Sp g yX_table cX_table 7 (some .int) rmX_table h [.ref a_0, .int i_1, .int i_2, .int i_3, .int i_4] h' (some (.int r')) := by
  refine sp_of (by decide) (Nat.le_of_ble_eq_true rfl) ?_
  change V g yX_table cX_table 7 (some .int) rmX_table (ZQ g rmX_table h' (some (.int r'))) 0 0 h 0 [some (.ref a_0), some (.int i_1), some (.int i_2), some (.int i_3), some (.int i_4), none, none] []
  unfold fX_table at hf
  refine v_iload_n (i := 1) (pc := 0) dX_table_0 rfl rfl ?_
  obtain ⟨h1, i2, e39, hf⟩ := bndp hf
  refine v_S1 (pc := 1) (As := [.int i_1]) (rest := []) lsX_143 (sX_noPlace e39) ⟨Nat.le_of_ble_eq_true rfl, Nat.le_of_ble_eq_true rfl, Nat.le_of_ble_eq_true rfl, Nat.le_of_ble_eq_true rfl⟩ dX_table_1 rfl rfl (Nat.le_of_ble_eq_true rfl) ?_
  refine v_if_ne (pc := 4) (tgt := 26) dX_table_4 rfl hf (fun hf => ?_) (fun hf => ?_)
  rotate_left
  · refine v_ldc (pc := 26) dX_table_26 kiX_71 ?_
    exact v_iret (pc := 28) dX_table_28 (by decide) (by decide) hf
  refine v_iload_n (i := 2) (pc := 7) dX_table_7 rfl rfl ?_
  obtain ⟨h3, i4, e38, hf⟩ := bndp hf
  refine v_S1 (pc := 8) (As := [.int i_2]) (rest := []) lsX_67 (sX_noSheet e38) ⟨Nat.le_of_ble_eq_true rfl, Nat.le_of_ble_eq_true rfl, Nat.le_of_ble_eq_true rfl, Nat.le_of_ble_eq_true rfl⟩ dX_table_8 rfl rfl (Nat.le_of_ble_eq_true rfl) ?_
  refine v_if_ne (pc := 11) (tgt := 26) dX_table_11 rfl hf (fun hf => ?_) (fun hf => ?_)
  rotate_left
  · refine v_ldc (pc := 26) dX_table_26 kiX_71 ?_
    exact v_iret (pc := 28) dX_table_28 (by decide) (by decide) hf
  refine v_iload (pc := 14) dX_table_14 rfl ?_
  refine v_iconst (pc := 16) (1:Int32) dX_table_16 rfl ?_
  refine v_icmp_lt (pc := 17) (tgt := 26) dX_table_17 rfl hf (fun hf => ?_) (fun hf => ?_)
  · refine v_ldc (pc := 26) dX_table_26 kiX_71 ?_
    exact v_iret (pc := 28) dX_table_28 (by decide) (by decide) hf
  refine v_iload (pc := 20) dX_table_20 rfl ?_
  refine v_iconst (pc := 22) (4:Int32) dX_table_22 rfl ?_
  refine v_icmp_le (pc := 23) (tgt := 29) dX_table_23 rfl hf (fun hf => ?_) (fun hf => ?_)
  rotate_left
  · refine v_ldc (pc := 26) dX_table_26 kiX_71 ?_
    exact v_iret (pc := 28) dX_table_28 (by decide) (by decide) hf
  refine v_aload_n (i := 0) (pc := 29) dX_table_29 rfl rfl ?_
  refine v_getR (pc := 30) fgX_52 dX_table_30 hf (fun a5 hf => ?_)
  refine v_iload_n (i := 2) (pc := 33) dX_table_33 rfl rfl ?_
  refine v_aald (pc := 34) (Or.inr (Or.inl rfl)) dX_table_34 hf (fun hf => ?_) (fun a6 hf => ?_)
  · refine v_astoreN (pc := 35) (ls' := [some (.ref a_0), some (.int i_1), some (.int i_2), some (.int i_3), some (.int i_4), some (.null), none]) dX_table_35 (by decide) rfl ?_
    refine v_aloadN (pc := 37) dX_table_37 rfl ?_
    cases hf
  refine v_astore (pc := 35) (ls' := [some (.ref a_0), some (.int i_1), some (.int i_2), some (.int i_3), some (.int i_4), some (.ref a6), none]) dX_table_35 (by decide) rfl ?_
  refine v_aload (pc := 37) dX_table_37 rfl ?_
  obtain ⟨u37, cu37, hf⟩ := bnd hf
  obtain ⟨h7, i8, e36, hf⟩ := bndp hf
  refine v_M1 (pc := 39) (As := []) (rest := []) lmX_85 cu37 (sSt_missing e36) ⟨Nat.le_of_ble_eq_true rfl, Nat.le_of_ble_eq_true rfl, Nat.le_of_ble_eq_true rfl, Nat.le_of_ble_eq_true rfl⟩ dX_table_39 rfl rfl (Nat.le_of_ble_eq_true rfl) ?_
  refine v_if_eq (pc := 42) (tgt := 51) dX_table_42 rfl hf (fun hf => ?_) (fun hf => ?_)
  rotate_left
  · refine v_aload_n (i := 0) (pc := 45) dX_table_45 rfl rfl ?_
    refine v_iconst (pc := 46) (1:Int32) dX_table_46 rfl ?_
    obtain ⟨u35, cu35, hf⟩ := bnd hf
    obtain ⟨h32, i33, e34, hf⟩ := bndp hf
    refine v_M1 (pc := 47) (As := [.int (1:Int32)]) (rest := []) lmX_72 cu35 (sX_found e34) ⟨Nat.le_of_ble_eq_true rfl, Nat.le_of_ble_eq_true rfl, Nat.le_of_ble_eq_true rfl, Nat.le_of_ble_eq_true rfl⟩ dX_table_47 rfl rfl (Nat.le_of_ble_eq_true rfl) ?_
    exact v_iret (pc := 50) dX_table_50 (by decide) (by decide) hf
  refine v_new (pc := 51) noX_146 dX_table_51 (Nat.le_of_ble_eq_true rfl) (Nat.le_of_ble_eq_true rfl) hf (fun h9 a10 hf => ?_)
  refine v_dup (pc := 54) dX_table_54 rfl ?_
  refine v_iload (pc := 55) dX_table_55 rfl ?_
  obtain ⟨h11, e31, hf⟩ := bnd hf
  refine v_I0 (pc := 57) (As := [.int i_4]) (rest := [.ref a10]) liX_148 (sSg_init e31) ⟨Nat.le_of_ble_eq_true rfl, Nat.le_of_ble_eq_true rfl, Nat.le_of_ble_eq_true rfl, Nat.le_of_ble_eq_true rfl⟩ dX_table_57 rfl rfl (Nat.le_of_ble_eq_true rfl) ?_
  refine v_astore (pc := 60) (ls' := [some (.ref a_0), some (.int i_1), some (.int i_2), some (.int i_3), some (.int i_4), some (.ref a6), some (.ref a10)]) dX_table_60 (by decide) rfl ?_
  refine v_aload (pc := 62) dX_table_62 rfl ?_
  refine v_iload_n (i := 3) (pc := 64) dX_table_64 rfl rfl ?_
  refine v_iconst (pc := 65) (2:Int32) dX_table_65 rfl ?_
  refine v_aload (pc := 66) dX_table_66 rfl ?_
  refine v_getR (pc := 68) fgX_149 dX_table_68 hf (fun a12 hf => ?_)
  refine v_alen (pc := 71) dX_table_71 hf (fun i13 hf => ?_)
  refine v_imul (pc := 72) dX_table_72 ?_
  obtain ⟨u30, cu30, hf⟩ := bnd hf
  obtain ⟨h14, i15, e29, hf⟩ := bndp hf
  refine v_M1 (pc := 73) (As := [.int i_3, .int ((2:Int32) * i13)]) (rest := []) lmX_89 cu30 (sSt_holds e29) ⟨Nat.le_of_ble_eq_true rfl, Nat.le_of_ble_eq_true rfl, Nat.le_of_ble_eq_true rfl, Nat.le_of_ble_eq_true rfl⟩ dX_table_73 rfl rfl (Nat.le_of_ble_eq_true rfl) ?_
  refine v_if_ne (pc := 76) (tgt := 85) dX_table_76 rfl hf (fun hf => ?_) (fun hf => ?_)
  · refine v_aload_n (i := 0) (pc := 79) dX_table_79 rfl rfl ?_
    refine v_iconst (pc := 80) (2:Int32) dX_table_80 rfl ?_
    obtain ⟨u28, cu28, hf⟩ := bnd hf
    obtain ⟨h25, i26, e27, hf⟩ := bndp hf
    refine v_M1 (pc := 81) (As := [.int (2:Int32)]) (rest := []) lmX_72 cu28 (sX_found e27) ⟨Nat.le_of_ble_eq_true rfl, Nat.le_of_ble_eq_true rfl, Nat.le_of_ble_eq_true rfl, Nat.le_of_ble_eq_true rfl⟩ dX_table_81 rfl rfl (Nat.le_of_ble_eq_true rfl) ?_
    exact v_iret (pc := 84) dX_table_84 (by decide) (by decide) hf
  refine v_aload_n (i := 0) (pc := 85) dX_table_85 rfl rfl ?_
  refine v_aload (pc := 86) dX_table_86 rfl ?_
  refine v_iload_n (i := 3) (pc := 88) dX_table_88 rfl rfl ?_
  refine v_aload (pc := 89) dX_table_89 rfl ?_
  refine v_getR (pc := 91) fgX_149 dX_table_91 hf (fun a16 hf => ?_)
  obtain ⟨u24, cu24, hf⟩ := bnd hf
  obtain ⟨h17, i18, e23, hf⟩ := bndp hf
  refine v_M1 (pc := 94) (As := [.ref a6, .int i_3, .ref a16]) (rest := []) lmX_152 cu24 (sX_readFractions e23) ⟨Nat.le_of_ble_eq_true rfl, Nat.le_of_ble_eq_true rfl, Nat.le_of_ble_eq_true rfl, Nat.le_of_ble_eq_true rfl⟩ dX_table_94 rfl rfl (Nat.le_of_ble_eq_true rfl) ?_
  refine v_if_ne (pc := 97) (tgt := 103) dX_table_97 rfl hf (fun hf => ?_) (fun hf => ?_)
  · refine v_ldc (pc := 100) dX_table_100 kiX_71 ?_
    exact v_iret (pc := 102) dX_table_102 (by decide) (by decide) hf
  refine v_aload_n (i := 0) (pc := 103) dX_table_103 rfl rfl ?_
  refine v_iload_n (i := 1) (pc := 104) dX_table_104 rfl rfl ?_
  refine v_aload (pc := 105) dX_table_105 rfl ?_
  obtain ⟨u22, cu22, hf⟩ := bnd hf
  obtain ⟨h19, i20, e21, hf⟩ := bndp hf
  refine v_M1 (pc := 107) (As := [.int i_1, .ref a10]) (rest := []) lmX_156 cu22 (sX_shelve e21) ⟨Nat.le_of_ble_eq_true rfl, Nat.le_of_ble_eq_true rfl, Nat.le_of_ble_eq_true rfl, Nat.le_of_ble_eq_true rfl⟩ dX_table_107 rfl rfl (Nat.le_of_ble_eq_true rfl) ?_
  exact v_iret (pc := 110) dX_table_110 (by decide) (by decide) hf
abbrev rmSg_putA : Room := { frames := 0, cells := 0, slots := 0, locals := 0 }
def fSg_putA (h : MH) (a_0 : Nat) (i_1 : Int32) (i_2 : Int32) (j_3 : Int64) : Option MH := ((gfR h a_0 [7] 1).bind fun a1 => ((gfI h a_0 [7] 0).bind fun i2 => ((wrI h a1 ((i_1 * i2) + i_2) j_3.toInt32).bind fun h3 => (some h3))))
set_option maxRecDepth 20000 in
set_option maxHeartbeats 4000000 in
theorem sSg_putA {g : Gh} {h' : MH} {h : MH} {a_0 : Nat} {i_1 : Int32} {i_2 : Int32} {j_3 : Int64} (hf : fSg_putA h a_0 i_1 i_2 j_3 = some h') : Sp g ySg_putA cSg_putA 5 none rmSg_putA h [.ref a_0, .int i_1, .int i_2, .long j_3] h' none := by
  refine sp_of (by decide) (Nat.le_of_ble_eq_true rfl) ?_
  change V g ySg_putA cSg_putA 5 none rmSg_putA (ZQ g rmSg_putA h' none) 0 0 h 0 [some (.ref a_0), some (.int i_1), some (.int i_2), some (.long j_3), none] []
  unfold fSg_putA at hf
  refine v_aload_n (i := 0) (pc := 0) dSg_putA_0 rfl rfl ?_
  refine v_getR (pc := 1) fgSg_21 dSg_putA_1 hf (fun a1 hf => ?_)
  refine v_iload_n (i := 1) (pc := 4) dSg_putA_4 rfl rfl ?_
  refine v_aload_n (i := 0) (pc := 5) dSg_putA_5 rfl rfl ?_
  refine v_getI (pc := 6) fgSg_15 dSg_putA_6 hf (fun i2 hf => ?_)
  refine v_imul (pc := 9) dSg_putA_9 ?_
  refine v_iload_n (i := 2) (pc := 10) dSg_putA_10 rfl rfl ?_
  refine v_iadd (pc := 11) dSg_putA_11 ?_
  refine v_lload_n (i := 3) (pc := 12) dSg_putA_12 rfl rfl ?_
  refine v_l2i (pc := 13) dSg_putA_13 ?_
  refine v_iast (pc := 14) dSg_putA_14 hf (fun h3 hf => ?_)
  exact v_vret (pc := 15) dSg_putA_15 (by decide) (by decide) hf
abbrev rmSg_putB : Room := { frames := 0, cells := 0, slots := 0, locals := 0 }
def fSg_putB (h : MH) (a_0 : Nat) (i_1 : Int32) (j_2 : Int64) : Option MH := ((gfR h a_0 [7] 1).bind fun a1 => ((gfI h a_0 [7] 0).bind fun i2 => ((gfI h a_0 [7] 0).bind fun i3 => ((wrI h a1 ((i2 * i3) + i_1) j_2.toInt32).bind fun h4 => (some h4)))))
set_option maxRecDepth 20000 in
set_option maxHeartbeats 4000000 in
theorem sSg_putB {g : Gh} {h' : MH} {h : MH} {a_0 : Nat} {i_1 : Int32} {j_2 : Int64} (hf : fSg_putB h a_0 i_1 j_2 = some h') : Sp g ySg_putB cSg_putB 4 none rmSg_putB h [.ref a_0, .int i_1, .long j_2] h' none := by
  refine sp_of (by decide) (Nat.le_of_ble_eq_true rfl) ?_
  change V g ySg_putB cSg_putB 4 none rmSg_putB (ZQ g rmSg_putB h' none) 0 0 h 0 [some (.ref a_0), some (.int i_1), some (.long j_2), none] []
  unfold fSg_putB at hf
  refine v_aload_n (i := 0) (pc := 0) dSg_putB_0 rfl rfl ?_
  refine v_getR (pc := 1) fgSg_21 dSg_putB_1 hf (fun a1 hf => ?_)
  refine v_aload_n (i := 0) (pc := 4) dSg_putB_4 rfl rfl ?_
  refine v_getI (pc := 5) fgSg_15 dSg_putB_5 hf (fun i2 hf => ?_)
  refine v_aload_n (i := 0) (pc := 8) dSg_putB_8 rfl rfl ?_
  refine v_getI (pc := 9) fgSg_15 dSg_putB_9 hf (fun i3 hf => ?_)
  refine v_imul (pc := 12) dSg_putB_12 ?_
  refine v_iload_n (i := 1) (pc := 13) dSg_putB_13 rfl rfl ?_
  refine v_iadd (pc := 14) dSg_putB_14 ?_
  refine v_lload_n (i := 2) (pc := 15) dSg_putB_15 rfl rfl ?_
  refine v_l2i (pc := 16) dSg_putB_16 ?_
  refine v_iast (pc := 17) dSg_putB_17 hf (fun h4 hf => ?_)
  exact v_vret (pc := 18) dSg_putB_18 (by decide) (by decide) hf
abbrev rmX_joined : Room := { frames := 2, cells := 2, slots := 74, locals := 42 }
def bX_joined_64 (k23 : (MH × Nat × Nat × Int32 × Nat × Int32) → Option (MH × Nat)) (n : Nat) (k64 : (MH × Nat × Nat × Int32 × Nat × Int32 × Int32) → Option (MH × Nat)) (h : MH) (x1 : Nat) (x2 : Nat) (x3 : Int32) (x4 : Nat) (x5 : Int32) (x6 : Int32) : Option (MH × Nat) := ((gfI h x4 [7] 0).bind fun i1 => (if i1 ≤ x6 then ((chk h x1 7).bind fun _ => (bnd2 (fSg_b h x1 x5) fun h2 j3 => ((chk h2 x4 7).bind fun _ => ((fSg_putB h2 x4 x5 j3).bind fun h4 => (k23 (h4, x1, x2, x3, x4, (x5 + (1:Int32)))))))) else ((chk h x1 7).bind fun _ => (bnd2 (fSg_b h x1 x5) fun h9 j10 => ((chk h9 x4 7).bind fun _ => ((fSg_putA h9 x4 x6 x5 j10).bind fun h11 => (k64 (h11, x1, x2, x3, x4, x5, (x6 + (1:Int32))))))))))
def fX_joined_64 (k23 : (MH × Nat × Nat × Int32 × Nat × Int32) → Option (MH × Nat)) (n : Nat) (h : MH) (x1 : Nat) (x2 : Nat) (x3 : Int32) (x4 : Nat) (x5 : Int32) (x6 : Int32) : Option (MH × Nat) := lp (fun n k s => bX_joined_64 k23 n k s.1 s.2.1 s.2.2.1 s.2.2.2.1 s.2.2.2.2.1 s.2.2.2.2.2.1 s.2.2.2.2.2.2) n (h, x1, x2, x3, x4, x5, x6)
set_option maxRecDepth 20000 in
set_option maxHeartbeats 4000000 in
theorem tX_joined_64 {g : Gh} {h' : MH} {r' : Nat} {k23 : (MH × Nat × Nat × Int32 × Nat × Int32) → Option (MH × Nat)} (hk23 : ∀ (h : MH) (x1 : Nat) (x2 : Nat) (x3 : Int32) (x4 : Nat) (x5 : Int32), k23 (h, x1, x2, x3, x4, x5) = some (h', r') → V g yX_joined cX_joined 7 (some (.object "TreeSteps$Stages")) rmX_joined (ZQ g rmX_joined h' (some (.ref r'))) 2 74 h 23 [none, some (.ref x1), some (.ref x2), some (.int x3), some (.ref x4), some (.int x5), none] []) (n : Nat) (h : MH) (x1 : Nat) (x2 : Nat) (x3 : Int32) (x4 : Nat) (x5 : Int32) (x6 : Int32) (hf : fX_joined_64 k23 n h x1 x2 x3 x4 x5 x6 = some (h', r')) : V g yX_joined cX_joined 7 (some (.object "TreeSteps$Stages")) rmX_joined (ZQ g rmX_joined h' (some (.ref r'))) 2 74 h 64 [none, some (.ref x1), some (.ref x2), some (.int x3), some (.ref x4), some (.int x5), some (.int x6)] [] := by
  unfold fX_joined_64 at hf
  refine lp_ind (P := fun s => V g yX_joined cX_joined 7 (some (.object "TreeSteps$Stages")) rmX_joined (ZQ g rmX_joined h' (some (.ref r'))) 2 74 s.1 64 [none, some (.ref s.2.1), some (.ref s.2.2.1), some (.int s.2.2.2.1), some (.ref s.2.2.2.2.1), some (.int s.2.2.2.2.2.1), some (.int s.2.2.2.2.2.2)] []) (fun n k64 hk64 s hf => ?_) n (h, x1, x2, x3, x4, x5, x6) hf
  obtain ⟨h, x1, x2, x3, x4, x5, x6⟩ := s
  replace hk64 : ∀ (h : MH) (x1 : Nat) (x2 : Nat) (x3 : Int32) (x4 : Nat) (x5 : Int32) (x6 : Int32), k64 (h, x1, x2, x3, x4, x5, x6) = some (h', r') → V g yX_joined cX_joined 7 (some (.object "TreeSteps$Stages")) rmX_joined (ZQ g rmX_joined h' (some (.ref r'))) 2 74 h 64 [none, some (.ref x1), some (.ref x2), some (.int x3), some (.ref x4), some (.int x5), some (.int x6)] [] := fun h x1 x2 x3 x4 x5 x6 => hk64 (h, x1, x2, x3, x4, x5, x6)
  replace hf : bX_joined_64 k23 n k64 h x1 x2 x3 x4 x5 x6 = some (h', r') := hf
  change V g yX_joined cX_joined 7 (some (.object "TreeSteps$Stages")) rmX_joined (ZQ g rmX_joined h' (some (.ref r'))) 2 74 h 64 [none, some (.ref x1), some (.ref x2), some (.int x3), some (.ref x4), some (.int x5), some (.int x6)] []
  unfold bX_joined_64 at hf
  refine v_iload (pc := 64) dX_joined_64 rfl ?_
  refine v_aload (pc := 66) dX_joined_66 rfl ?_
  refine v_getI (pc := 68) fgX_164 dX_joined_68 hf (fun i1 hf => ?_)
  refine v_icmp_ge (pc := 71) (tgt := 95) dX_joined_71 rfl hf (fun hf => ?_) (fun hf => ?_)
  · refine v_aload (pc := 95) dX_joined_95 rfl ?_
    refine v_iload (pc := 97) dX_joined_97 rfl ?_
    refine v_aload_n (i := 1) (pc := 99) dX_joined_99 rfl rfl ?_
    refine v_iload (pc := 100) dX_joined_100 rfl ?_
    obtain ⟨u8, cu8, hf⟩ := bnd hf
    obtain ⟨h2, j3, e7, hf⟩ := bndp hf
    refine v_M1 (pc := 102) (As := [.int x5]) (rest := [.int x5, .ref x4]) lmX_187 cu8 (sSg_b e7) ⟨Nat.le_of_ble_eq_true rfl, Nat.le_of_ble_eq_true rfl, Nat.le_of_ble_eq_true rfl, Nat.le_of_ble_eq_true rfl⟩ dX_joined_102 rfl rfl (Nat.le_of_ble_eq_true rfl) ?_
    obtain ⟨u6, cu6, hf⟩ := bnd hf
    obtain ⟨h4, e5, hf⟩ := bnd hf
    refine v_M0 (pc := 105) (As := [.int x5, .long j3]) (rest := []) lmX_260 cu6 (sSg_putB e5) ⟨Nat.le_of_ble_eq_true rfl, Nat.le_of_ble_eq_true rfl, Nat.le_of_ble_eq_true rfl, Nat.le_of_ble_eq_true rfl⟩ dX_joined_105 rfl rfl (Nat.le_of_ble_eq_true rfl) ?_
    refine v_iinc (pc := 108) (v := (x5 + (1:Int32))) (ls' := [none, some (.ref x1), some (.ref x2), some (.int x3), some (.ref x4), some (.int (x5 + (1:Int32))), some (.int x6)]) dX_joined_108 rfl rfl (by decide) rfl ?_
    refine v_goto (pc := 111) (tgt := 23) dX_joined_111 rfl ?_
    refine v_wk (ls' := [none, some (.ref x1), some (.ref x2), some (.int x3), some (.ref x4), some (.int (x5 + (1:Int32))), none]) ⟨rfl, rfl, rfl, rfl, rfl, trivial⟩ ?_
    exact hk23 h4 x1 x2 x3 x4 (x5 + (1:Int32)) hf
  refine v_aload (pc := 74) dX_joined_74 rfl ?_
  refine v_iload (pc := 76) dX_joined_76 rfl ?_
  refine v_iload (pc := 78) dX_joined_78 rfl ?_
  refine v_aload_n (i := 1) (pc := 80) dX_joined_80 rfl rfl ?_
  refine v_iload (pc := 81) dX_joined_81 rfl ?_
  obtain ⟨u15, cu15, hf⟩ := bnd hf
  obtain ⟨h9, j10, e14, hf⟩ := bndp hf
  refine v_M1 (pc := 83) (As := [.int x5]) (rest := [.int x5, .int x6, .ref x4]) lmX_187 cu15 (sSg_b e14) ⟨Nat.le_of_ble_eq_true rfl, Nat.le_of_ble_eq_true rfl, Nat.le_of_ble_eq_true rfl, Nat.le_of_ble_eq_true rfl⟩ dX_joined_83 rfl rfl (Nat.le_of_ble_eq_true rfl) ?_
  obtain ⟨u13, cu13, hf⟩ := bnd hf
  obtain ⟨h11, e12, hf⟩ := bnd hf
  refine v_M0 (pc := 86) (As := [.int x6, .int x5, .long j10]) (rest := []) lmX_256 cu13 (sSg_putA e12) ⟨Nat.le_of_ble_eq_true rfl, Nat.le_of_ble_eq_true rfl, Nat.le_of_ble_eq_true rfl, Nat.le_of_ble_eq_true rfl⟩ dX_joined_86 rfl rfl (Nat.le_of_ble_eq_true rfl) ?_
  refine v_iinc (pc := 89) (v := (x6 + (1:Int32))) (ls' := [none, some (.ref x1), some (.ref x2), some (.int x3), some (.ref x4), some (.int x5), some (.int (x6 + (1:Int32)))]) dX_joined_89 rfl rfl (by decide) rfl ?_
  refine v_goto (pc := 92) (tgt := 64) dX_joined_92 rfl ?_
  refine v_wk (ls' := [none, some (.ref x1), some (.ref x2), some (.int x3), some (.ref x4), some (.int x5), some (.int (x6 + (1:Int32)))]) ⟨rfl, rfl, rfl, rfl, rfl, rfl, trivial⟩ ?_
  exact hk64 h11 x1 x2 x3 x4 x5 (x6 + (1:Int32)) hf
def bX_joined_32 (k23 : (MH × Nat × Nat × Int32 × Nat × Int32) → Option (MH × Nat)) (n : Nat) (k32 : (MH × Nat × Nat × Int32 × Nat × Int32 × Int32) → Option (MH × Nat)) (h : MH) (x1 : Nat) (x2 : Nat) (x3 : Int32) (x4 : Nat) (x5 : Int32) (x6 : Int32) : Option (MH × Nat) := (if x3 ≤ x6 then (fX_joined_64 k23 n h x1 x2 x3 x4 x5 x3) else ((chk h x1 7).bind fun _ => (bnd2 (fSg_a h x1 x6 x5) fun h1 j2 => ((chk h1 x4 7).bind fun _ => ((fSg_putA h1 x4 x6 x5 j2).bind fun h3 => (k32 (h3, x1, x2, x3, x4, x5, (x6 + (1:Int32)))))))))
def fX_joined_32 (k23 : (MH × Nat × Nat × Int32 × Nat × Int32) → Option (MH × Nat)) (n : Nat) (h : MH) (x1 : Nat) (x2 : Nat) (x3 : Int32) (x4 : Nat) (x5 : Int32) (x6 : Int32) : Option (MH × Nat) := lp (fun n k s => bX_joined_32 k23 n k s.1 s.2.1 s.2.2.1 s.2.2.2.1 s.2.2.2.2.1 s.2.2.2.2.2.1 s.2.2.2.2.2.2) n (h, x1, x2, x3, x4, x5, x6)
set_option maxRecDepth 20000 in
set_option maxHeartbeats 4000000 in
theorem tX_joined_32 {g : Gh} {h' : MH} {r' : Nat} {k23 : (MH × Nat × Nat × Int32 × Nat × Int32) → Option (MH × Nat)} (hk23 : ∀ (h : MH) (x1 : Nat) (x2 : Nat) (x3 : Int32) (x4 : Nat) (x5 : Int32), k23 (h, x1, x2, x3, x4, x5) = some (h', r') → V g yX_joined cX_joined 7 (some (.object "TreeSteps$Stages")) rmX_joined (ZQ g rmX_joined h' (some (.ref r'))) 2 74 h 23 [none, some (.ref x1), some (.ref x2), some (.int x3), some (.ref x4), some (.int x5), none] []) (n : Nat) (h : MH) (x1 : Nat) (x2 : Nat) (x3 : Int32) (x4 : Nat) (x5 : Int32) (x6 : Int32) (hf : fX_joined_32 k23 n h x1 x2 x3 x4 x5 x6 = some (h', r')) : V g yX_joined cX_joined 7 (some (.object "TreeSteps$Stages")) rmX_joined (ZQ g rmX_joined h' (some (.ref r'))) 2 74 h 32 [none, some (.ref x1), some (.ref x2), some (.int x3), some (.ref x4), some (.int x5), some (.int x6)] [] := by
  unfold fX_joined_32 at hf
  refine lp_ind (P := fun s => V g yX_joined cX_joined 7 (some (.object "TreeSteps$Stages")) rmX_joined (ZQ g rmX_joined h' (some (.ref r'))) 2 74 s.1 32 [none, some (.ref s.2.1), some (.ref s.2.2.1), some (.int s.2.2.2.1), some (.ref s.2.2.2.2.1), some (.int s.2.2.2.2.2.1), some (.int s.2.2.2.2.2.2)] []) (fun n k32 hk32 s hf => ?_) n (h, x1, x2, x3, x4, x5, x6) hf
  obtain ⟨h, x1, x2, x3, x4, x5, x6⟩ := s
  replace hk32 : ∀ (h : MH) (x1 : Nat) (x2 : Nat) (x3 : Int32) (x4 : Nat) (x5 : Int32) (x6 : Int32), k32 (h, x1, x2, x3, x4, x5, x6) = some (h', r') → V g yX_joined cX_joined 7 (some (.object "TreeSteps$Stages")) rmX_joined (ZQ g rmX_joined h' (some (.ref r'))) 2 74 h 32 [none, some (.ref x1), some (.ref x2), some (.int x3), some (.ref x4), some (.int x5), some (.int x6)] [] := fun h x1 x2 x3 x4 x5 x6 => hk32 (h, x1, x2, x3, x4, x5, x6)
  replace hf : bX_joined_32 k23 n k32 h x1 x2 x3 x4 x5 x6 = some (h', r') := hf
  change V g yX_joined cX_joined 7 (some (.object "TreeSteps$Stages")) rmX_joined (ZQ g rmX_joined h' (some (.ref r'))) 2 74 h 32 [none, some (.ref x1), some (.ref x2), some (.int x3), some (.ref x4), some (.int x5), some (.int x6)] []
  unfold bX_joined_32 at hf
  refine v_iload (pc := 32) dX_joined_32 rfl ?_
  refine v_iload_n (i := 3) (pc := 34) dX_joined_34 rfl rfl ?_
  refine v_icmp_ge (pc := 35) (tgt := 61) dX_joined_35 rfl hf (fun hf => ?_) (fun hf => ?_)
  · refine v_iload_n (i := 3) (pc := 61) dX_joined_61 rfl rfl ?_
    refine v_istore (pc := 62) (ls' := [none, some (.ref x1), some (.ref x2), some (.int x3), some (.ref x4), some (.int x5), some (.int x3)]) dX_joined_62 (by decide) rfl ?_
    refine v_wk (ls' := [none, some (.ref x1), some (.ref x2), some (.int x3), some (.ref x4), some (.int x5), some (.int x3)]) ⟨rfl, rfl, rfl, rfl, rfl, rfl, trivial⟩ ?_
    exact tX_joined_64 hk23 n h x1 x2 x3 x4 x5 x3 hf
  refine v_aload (pc := 38) dX_joined_38 rfl ?_
  refine v_iload (pc := 40) dX_joined_40 rfl ?_
  refine v_iload (pc := 42) dX_joined_42 rfl ?_
  refine v_aload_n (i := 1) (pc := 44) dX_joined_44 rfl rfl ?_
  refine v_iload (pc := 45) dX_joined_45 rfl ?_
  refine v_iload (pc := 47) dX_joined_47 rfl ?_
  obtain ⟨u7, cu7, hf⟩ := bnd hf
  obtain ⟨h1, j2, e6, hf⟩ := bndp hf
  refine v_M1 (pc := 49) (As := [.int x6, .int x5]) (rest := [.int x5, .int x6, .ref x4]) lmX_191 cu7 (sSg_a e6) ⟨Nat.le_of_ble_eq_true rfl, Nat.le_of_ble_eq_true rfl, Nat.le_of_ble_eq_true rfl, Nat.le_of_ble_eq_true rfl⟩ dX_joined_49 rfl rfl (Nat.le_of_ble_eq_true rfl) ?_
  obtain ⟨u5, cu5, hf⟩ := bnd hf
  obtain ⟨h3, e4, hf⟩ := bnd hf
  refine v_M0 (pc := 52) (As := [.int x6, .int x5, .long j2]) (rest := []) lmX_256 cu5 (sSg_putA e4) ⟨Nat.le_of_ble_eq_true rfl, Nat.le_of_ble_eq_true rfl, Nat.le_of_ble_eq_true rfl, Nat.le_of_ble_eq_true rfl⟩ dX_joined_52 rfl rfl (Nat.le_of_ble_eq_true rfl) ?_
  refine v_iinc (pc := 55) (v := (x6 + (1:Int32))) (ls' := [none, some (.ref x1), some (.ref x2), some (.int x3), some (.ref x4), some (.int x5), some (.int (x6 + (1:Int32)))]) dX_joined_55 rfl rfl (by decide) rfl ?_
  refine v_goto (pc := 58) (tgt := 32) dX_joined_58 rfl ?_
  refine v_wk (ls' := [none, some (.ref x1), some (.ref x2), some (.int x3), some (.ref x4), some (.int x5), some (.int (x6 + (1:Int32)))]) ⟨rfl, rfl, rfl, rfl, rfl, rfl, trivial⟩ ?_
  exact hk32 h3 x1 x2 x3 x4 x5 (x6 + (1:Int32)) hf
def bX_joined_129 (k117 : (MH × Nat × Int32 × Nat × Int32) → Option (MH × Nat)) (n : Nat) (k129 : (MH × Nat × Int32 × Nat × Int32 × Int32) → Option (MH × Nat)) (h : MH) (x2 : Nat) (x3 : Int32) (x4 : Nat) (x5 : Int32) (x6 : Int32) : Option (MH × Nat) := ((gfI h x2 [7] 0).bind fun i1 => (if i1 ≤ x6 then ((chk h x2 7).bind fun _ => (bnd2 (fSg_b h x2 x5) fun h2 j3 => ((chk h2 x4 7).bind fun _ => ((fSg_putB h2 x4 (x3 + x5) j3).bind fun h4 => (k117 (h4, x2, x3, x4, (x5 + (1:Int32)))))))) else ((chk h x2 7).bind fun _ => (bnd2 (fSg_a h x2 x6 x5) fun h9 j10 => ((chk h9 x4 7).bind fun _ => ((fSg_putA h9 x4 (x3 + x6) (x3 + x5) j10).bind fun h11 => (k129 (h11, x2, x3, x4, x5, (x6 + (1:Int32))))))))))
def fX_joined_129 (k117 : (MH × Nat × Int32 × Nat × Int32) → Option (MH × Nat)) (n : Nat) (h : MH) (x2 : Nat) (x3 : Int32) (x4 : Nat) (x5 : Int32) (x6 : Int32) : Option (MH × Nat) := lp (fun n k s => bX_joined_129 k117 n k s.1 s.2.1 s.2.2.1 s.2.2.2.1 s.2.2.2.2.1 s.2.2.2.2.2) n (h, x2, x3, x4, x5, x6)
set_option maxRecDepth 20000 in
set_option maxHeartbeats 4000000 in
theorem tX_joined_129 {g : Gh} {h' : MH} {r' : Nat} {k117 : (MH × Nat × Int32 × Nat × Int32) → Option (MH × Nat)} (hk117 : ∀ (h : MH) (x2 : Nat) (x3 : Int32) (x4 : Nat) (x5 : Int32), k117 (h, x2, x3, x4, x5) = some (h', r') → V g yX_joined cX_joined 7 (some (.object "TreeSteps$Stages")) rmX_joined (ZQ g rmX_joined h' (some (.ref r'))) 2 74 h 117 [none, none, some (.ref x2), some (.int x3), some (.ref x4), some (.int x5), none] []) (n : Nat) (h : MH) (x2 : Nat) (x3 : Int32) (x4 : Nat) (x5 : Int32) (x6 : Int32) (hf : fX_joined_129 k117 n h x2 x3 x4 x5 x6 = some (h', r')) : V g yX_joined cX_joined 7 (some (.object "TreeSteps$Stages")) rmX_joined (ZQ g rmX_joined h' (some (.ref r'))) 2 74 h 129 [none, none, some (.ref x2), some (.int x3), some (.ref x4), some (.int x5), some (.int x6)] [] := by
  unfold fX_joined_129 at hf
  refine lp_ind (P := fun s => V g yX_joined cX_joined 7 (some (.object "TreeSteps$Stages")) rmX_joined (ZQ g rmX_joined h' (some (.ref r'))) 2 74 s.1 129 [none, none, some (.ref s.2.1), some (.int s.2.2.1), some (.ref s.2.2.2.1), some (.int s.2.2.2.2.1), some (.int s.2.2.2.2.2)] []) (fun n k129 hk129 s hf => ?_) n (h, x2, x3, x4, x5, x6) hf
  obtain ⟨h, x2, x3, x4, x5, x6⟩ := s
  replace hk129 : ∀ (h : MH) (x2 : Nat) (x3 : Int32) (x4 : Nat) (x5 : Int32) (x6 : Int32), k129 (h, x2, x3, x4, x5, x6) = some (h', r') → V g yX_joined cX_joined 7 (some (.object "TreeSteps$Stages")) rmX_joined (ZQ g rmX_joined h' (some (.ref r'))) 2 74 h 129 [none, none, some (.ref x2), some (.int x3), some (.ref x4), some (.int x5), some (.int x6)] [] := fun h x2 x3 x4 x5 x6 => hk129 (h, x2, x3, x4, x5, x6)
  replace hf : bX_joined_129 k117 n k129 h x2 x3 x4 x5 x6 = some (h', r') := hf
  change V g yX_joined cX_joined 7 (some (.object "TreeSteps$Stages")) rmX_joined (ZQ g rmX_joined h' (some (.ref r'))) 2 74 h 129 [none, none, some (.ref x2), some (.int x3), some (.ref x4), some (.int x5), some (.int x6)] []
  unfold bX_joined_129 at hf
  refine v_iload (pc := 129) dX_joined_129 rfl ?_
  refine v_aload_n (i := 2) (pc := 131) dX_joined_131 rfl rfl ?_
  refine v_getI (pc := 132) fgX_164 dX_joined_132 hf (fun i1 hf => ?_)
  refine v_icmp_ge (pc := 135) (tgt := 165) dX_joined_135 rfl hf (fun hf => ?_) (fun hf => ?_)
  · refine v_aload (pc := 165) dX_joined_165 rfl ?_
    refine v_iload_n (i := 3) (pc := 167) dX_joined_167 rfl rfl ?_
    refine v_iload (pc := 168) dX_joined_168 rfl ?_
    refine v_iadd (pc := 170) dX_joined_170 ?_
    refine v_aload_n (i := 2) (pc := 171) dX_joined_171 rfl rfl ?_
    refine v_iload (pc := 172) dX_joined_172 rfl ?_
    obtain ⟨u8, cu8, hf⟩ := bnd hf
    obtain ⟨h2, j3, e7, hf⟩ := bndp hf
    refine v_M1 (pc := 174) (As := [.int x5]) (rest := [.int (x3 + x5), .ref x4]) lmX_187 cu8 (sSg_b e7) ⟨Nat.le_of_ble_eq_true rfl, Nat.le_of_ble_eq_true rfl, Nat.le_of_ble_eq_true rfl, Nat.le_of_ble_eq_true rfl⟩ dX_joined_174 rfl rfl (Nat.le_of_ble_eq_true rfl) ?_
    obtain ⟨u6, cu6, hf⟩ := bnd hf
    obtain ⟨h4, e5, hf⟩ := bnd hf
    refine v_M0 (pc := 177) (As := [.int (x3 + x5), .long j3]) (rest := []) lmX_260 cu6 (sSg_putB e5) ⟨Nat.le_of_ble_eq_true rfl, Nat.le_of_ble_eq_true rfl, Nat.le_of_ble_eq_true rfl, Nat.le_of_ble_eq_true rfl⟩ dX_joined_177 rfl rfl (Nat.le_of_ble_eq_true rfl) ?_
    refine v_iinc (pc := 180) (v := (x5 + (1:Int32))) (ls' := [none, none, some (.ref x2), some (.int x3), some (.ref x4), some (.int (x5 + (1:Int32))), some (.int x6)]) dX_joined_180 rfl rfl (by decide) rfl ?_
    refine v_goto (pc := 183) (tgt := 117) dX_joined_183 rfl ?_
    refine v_wk (ls' := [none, none, some (.ref x2), some (.int x3), some (.ref x4), some (.int (x5 + (1:Int32))), none]) ⟨rfl, rfl, rfl, rfl, trivial⟩ ?_
    exact hk117 h4 x2 x3 x4 (x5 + (1:Int32)) hf
  refine v_aload (pc := 138) dX_joined_138 rfl ?_
  refine v_iload_n (i := 3) (pc := 140) dX_joined_140 rfl rfl ?_
  refine v_iload (pc := 141) dX_joined_141 rfl ?_
  refine v_iadd (pc := 143) dX_joined_143 ?_
  refine v_iload_n (i := 3) (pc := 144) dX_joined_144 rfl rfl ?_
  refine v_iload (pc := 145) dX_joined_145 rfl ?_
  refine v_iadd (pc := 147) dX_joined_147 ?_
  refine v_aload_n (i := 2) (pc := 148) dX_joined_148 rfl rfl ?_
  refine v_iload (pc := 149) dX_joined_149 rfl ?_
  refine v_iload (pc := 151) dX_joined_151 rfl ?_
  obtain ⟨u15, cu15, hf⟩ := bnd hf
  obtain ⟨h9, j10, e14, hf⟩ := bndp hf
  refine v_M1 (pc := 153) (As := [.int x6, .int x5]) (rest := [.int (x3 + x5), .int (x3 + x6), .ref x4]) lmX_191 cu15 (sSg_a e14) ⟨Nat.le_of_ble_eq_true rfl, Nat.le_of_ble_eq_true rfl, Nat.le_of_ble_eq_true rfl, Nat.le_of_ble_eq_true rfl⟩ dX_joined_153 rfl rfl (Nat.le_of_ble_eq_true rfl) ?_
  obtain ⟨u13, cu13, hf⟩ := bnd hf
  obtain ⟨h11, e12, hf⟩ := bnd hf
  refine v_M0 (pc := 156) (As := [.int (x3 + x6), .int (x3 + x5), .long j10]) (rest := []) lmX_256 cu13 (sSg_putA e12) ⟨Nat.le_of_ble_eq_true rfl, Nat.le_of_ble_eq_true rfl, Nat.le_of_ble_eq_true rfl, Nat.le_of_ble_eq_true rfl⟩ dX_joined_156 rfl rfl (Nat.le_of_ble_eq_true rfl) ?_
  refine v_iinc (pc := 159) (v := (x6 + (1:Int32))) (ls' := [none, none, some (.ref x2), some (.int x3), some (.ref x4), some (.int x5), some (.int (x6 + (1:Int32)))]) dX_joined_159 rfl rfl (by decide) rfl ?_
  refine v_goto (pc := 162) (tgt := 129) dX_joined_162 rfl ?_
  refine v_wk (ls' := [none, none, some (.ref x2), some (.int x3), some (.ref x4), some (.int x5), some (.int (x6 + (1:Int32)))]) ⟨rfl, rfl, rfl, rfl, rfl, trivial⟩ ?_
  exact hk129 h11 x2 x3 x4 x5 (x6 + (1:Int32)) hf
def bX_joined_117 (n : Nat) (k117 : (MH × Nat × Int32 × Nat × Int32) → Option (MH × Nat)) (h : MH) (x2 : Nat) (x3 : Int32) (x4 : Nat) (x5 : Int32) : Option (MH × Nat) := ((gfI h x2 [7] 0).bind fun i1 => (if i1 ≤ x5 then (some (h, x4)) else (fX_joined_129 k117 n h x2 x3 x4 x5 (0:Int32))))
def fX_joined_117 (n : Nat) (h : MH) (x2 : Nat) (x3 : Int32) (x4 : Nat) (x5 : Int32) : Option (MH × Nat) := lp (fun n k s => bX_joined_117 n k s.1 s.2.1 s.2.2.1 s.2.2.2.1 s.2.2.2.2) n (h, x2, x3, x4, x5)
set_option maxRecDepth 20000 in
set_option maxHeartbeats 4000000 in
theorem tX_joined_117 {g : Gh} {h' : MH} {r' : Nat} (n : Nat) (h : MH) (x2 : Nat) (x3 : Int32) (x4 : Nat) (x5 : Int32) (hf : fX_joined_117 n h x2 x3 x4 x5 = some (h', r')) : V g yX_joined cX_joined 7 (some (.object "TreeSteps$Stages")) rmX_joined (ZQ g rmX_joined h' (some (.ref r'))) 2 74 h 117 [none, none, some (.ref x2), some (.int x3), some (.ref x4), some (.int x5), none] [] := by
  unfold fX_joined_117 at hf
  refine lp_ind (P := fun s => V g yX_joined cX_joined 7 (some (.object "TreeSteps$Stages")) rmX_joined (ZQ g rmX_joined h' (some (.ref r'))) 2 74 s.1 117 [none, none, some (.ref s.2.1), some (.int s.2.2.1), some (.ref s.2.2.2.1), some (.int s.2.2.2.2), none] []) (fun n k117 hk117 s hf => ?_) n (h, x2, x3, x4, x5) hf
  obtain ⟨h, x2, x3, x4, x5⟩ := s
  replace hk117 : ∀ (h : MH) (x2 : Nat) (x3 : Int32) (x4 : Nat) (x5 : Int32), k117 (h, x2, x3, x4, x5) = some (h', r') → V g yX_joined cX_joined 7 (some (.object "TreeSteps$Stages")) rmX_joined (ZQ g rmX_joined h' (some (.ref r'))) 2 74 h 117 [none, none, some (.ref x2), some (.int x3), some (.ref x4), some (.int x5), none] [] := fun h x2 x3 x4 x5 => hk117 (h, x2, x3, x4, x5)
  replace hf : bX_joined_117 n k117 h x2 x3 x4 x5 = some (h', r') := hf
  change V g yX_joined cX_joined 7 (some (.object "TreeSteps$Stages")) rmX_joined (ZQ g rmX_joined h' (some (.ref r'))) 2 74 h 117 [none, none, some (.ref x2), some (.int x3), some (.ref x4), some (.int x5), none] []
  unfold bX_joined_117 at hf
  refine v_iload (pc := 117) dX_joined_117 rfl ?_
  refine v_aload_n (i := 2) (pc := 119) dX_joined_119 rfl rfl ?_
  refine v_getI (pc := 120) fgX_164 dX_joined_120 hf (fun i1 hf => ?_)
  refine v_icmp_ge (pc := 123) (tgt := 186) dX_joined_123 rfl hf (fun hf => ?_) (fun hf => ?_)
  · refine v_aload (pc := 186) dX_joined_186 rfl ?_
    exact v_aret (pc := 188) dX_joined_188 (Or.inl ⟨_, rfl⟩) (by decide) (by decide) hf
  refine v_iconst (pc := 126) (0:Int32) dX_joined_126 rfl ?_
  refine v_istore (pc := 127) (ls' := [none, none, some (.ref x2), some (.int x3), some (.ref x4), some (.int x5), some (.int (0:Int32))]) dX_joined_127 (by decide) rfl ?_
  refine v_wk (ls' := [none, none, some (.ref x2), some (.int x3), some (.ref x4), some (.int x5), some (.int (0:Int32))]) ⟨rfl, rfl, rfl, rfl, rfl, trivial⟩ ?_
  exact tX_joined_129 hk117 n h x2 x3 x4 x5 (0:Int32) hf
def bX_joined_23 (n : Nat) (k23 : (MH × Nat × Nat × Int32 × Nat × Int32) → Option (MH × Nat)) (h : MH) (x1 : Nat) (x2 : Nat) (x3 : Int32) (x4 : Nat) (x5 : Int32) : Option (MH × Nat) := (if x3 ≤ x5 then (fX_joined_117 n h x2 x3 x4 (0:Int32)) else (fX_joined_32 k23 n h x1 x2 x3 x4 x5 (0:Int32)))
def fX_joined_23 (n : Nat) (h : MH) (x1 : Nat) (x2 : Nat) (x3 : Int32) (x4 : Nat) (x5 : Int32) : Option (MH × Nat) := lp (fun n k s => bX_joined_23 n k s.1 s.2.1 s.2.2.1 s.2.2.2.1 s.2.2.2.2.1 s.2.2.2.2.2) n (h, x1, x2, x3, x4, x5)
set_option maxRecDepth 20000 in
set_option maxHeartbeats 4000000 in
theorem tX_joined_23 {g : Gh} {h' : MH} {r' : Nat} (n : Nat) (h : MH) (x1 : Nat) (x2 : Nat) (x3 : Int32) (x4 : Nat) (x5 : Int32) (hf : fX_joined_23 n h x1 x2 x3 x4 x5 = some (h', r')) : V g yX_joined cX_joined 7 (some (.object "TreeSteps$Stages")) rmX_joined (ZQ g rmX_joined h' (some (.ref r'))) 2 74 h 23 [none, some (.ref x1), some (.ref x2), some (.int x3), some (.ref x4), some (.int x5), none] [] := by
  unfold fX_joined_23 at hf
  refine lp_ind (P := fun s => V g yX_joined cX_joined 7 (some (.object "TreeSteps$Stages")) rmX_joined (ZQ g rmX_joined h' (some (.ref r'))) 2 74 s.1 23 [none, some (.ref s.2.1), some (.ref s.2.2.1), some (.int s.2.2.2.1), some (.ref s.2.2.2.2.1), some (.int s.2.2.2.2.2), none] []) (fun n k23 hk23 s hf => ?_) n (h, x1, x2, x3, x4, x5) hf
  obtain ⟨h, x1, x2, x3, x4, x5⟩ := s
  replace hk23 : ∀ (h : MH) (x1 : Nat) (x2 : Nat) (x3 : Int32) (x4 : Nat) (x5 : Int32), k23 (h, x1, x2, x3, x4, x5) = some (h', r') → V g yX_joined cX_joined 7 (some (.object "TreeSteps$Stages")) rmX_joined (ZQ g rmX_joined h' (some (.ref r'))) 2 74 h 23 [none, some (.ref x1), some (.ref x2), some (.int x3), some (.ref x4), some (.int x5), none] [] := fun h x1 x2 x3 x4 x5 => hk23 (h, x1, x2, x3, x4, x5)
  replace hf : bX_joined_23 n k23 h x1 x2 x3 x4 x5 = some (h', r') := hf
  change V g yX_joined cX_joined 7 (some (.object "TreeSteps$Stages")) rmX_joined (ZQ g rmX_joined h' (some (.ref r'))) 2 74 h 23 [none, some (.ref x1), some (.ref x2), some (.int x3), some (.ref x4), some (.int x5), none] []
  unfold bX_joined_23 at hf
  refine v_iload (pc := 23) dX_joined_23 rfl ?_
  refine v_iload_n (i := 3) (pc := 25) dX_joined_25 rfl rfl ?_
  refine v_icmp_ge (pc := 26) (tgt := 114) dX_joined_26 rfl hf (fun hf => ?_) (fun hf => ?_)
  · refine v_iconst (pc := 114) (0:Int32) dX_joined_114 rfl ?_
    refine v_istore (pc := 115) (ls' := [none, some (.ref x1), some (.ref x2), some (.int x3), some (.ref x4), some (.int (0:Int32)), none]) dX_joined_115 (by decide) rfl ?_
    refine v_wk (ls' := [none, none, some (.ref x2), some (.int x3), some (.ref x4), some (.int (0:Int32)), none]) ⟨rfl, rfl, rfl, rfl, trivial⟩ ?_
    exact tX_joined_117 n h x2 x3 x4 (0:Int32) hf
  refine v_iconst (pc := 29) (0:Int32) dX_joined_29 rfl ?_
  refine v_istore (pc := 30) (ls' := [none, some (.ref x1), some (.ref x2), some (.int x3), some (.ref x4), some (.int x5), some (.int (0:Int32))]) dX_joined_30 (by decide) rfl ?_
  refine v_wk (ls' := [none, some (.ref x1), some (.ref x2), some (.int x3), some (.ref x4), some (.int x5), some (.int (0:Int32))]) ⟨rfl, rfl, rfl, rfl, rfl, rfl, trivial⟩ ?_
  exact tX_joined_32 hk23 n h x1 x2 x3 x4 x5 (0:Int32) hf
def fX_joined (n : Nat) (h : MH) (a_0 : Nat) (a_1 : Nat) (a_2 : Nat) : Option (MH × Nat) := ((gfI h a_1 [7] 0).bind fun i1 => (alc h (cO 7 [.int 0, .null]) fun h2 a3 => ((gfI h2 a_2 [7] 0).bind fun i4 => ((fSg_init n h2 a3 (i1 + i4)).bind fun h5 => (fX_joined_23 n h5 a_1 a_2 i1 a3 (0:Int32))))))
set_option maxRecDepth 20000 in
set_option maxHeartbeats 4000000 in
theorem sX_joined {g : Gh} {h' : MH} {r' : Nat} {n : Nat} {h : MH} {a_0 : Nat} {a_1 : Nat} {a_2 : Nat} (hf : fX_joined n h a_0 a_1 a_2 = some (h', r')) : Sp g yX_joined cX_joined 7 (some (.object "TreeSteps$Stages")) rmX_joined h [.ref a_0, .ref a_1, .ref a_2] h' (some (.ref r')) := by
  refine sp_of (by decide) (Nat.le_of_ble_eq_true rfl) ?_
  change V g yX_joined cX_joined 7 (some (.object "TreeSteps$Stages")) rmX_joined (ZQ g rmX_joined h' (some (.ref r'))) 0 0 h 0 [some (.ref a_0), some (.ref a_1), some (.ref a_2), none, none, none, none] []
  unfold fX_joined at hf
  refine v_aload_n (i := 1) (pc := 0) dX_joined_0 rfl rfl ?_
  refine v_getI (pc := 1) fgX_164 dX_joined_1 hf (fun i1 hf => ?_)
  refine v_istore_n (i := 3) (pc := 4) (ls' := [some (.ref a_0), some (.ref a_1), some (.ref a_2), some (.int i1), none, none, none]) dX_joined_4 rfl (by decide) rfl ?_
  refine v_new (pc := 5) noX_146 dX_joined_5 (Nat.le_of_ble_eq_true rfl) (Nat.le_of_ble_eq_true rfl) hf (fun h2 a3 hf => ?_)
  refine v_dup (pc := 8) dX_joined_8 rfl ?_
  refine v_iload_n (i := 3) (pc := 9) dX_joined_9 rfl rfl ?_
  refine v_aload_n (i := 2) (pc := 10) dX_joined_10 rfl rfl ?_
  refine v_getI (pc := 11) fgX_164 dX_joined_11 hf (fun i4 hf => ?_)
  refine v_iadd (pc := 14) dX_joined_14 ?_
  obtain ⟨h5, e6, hf⟩ := bnd hf
  refine v_I0 (pc := 15) (As := [.int (i1 + i4)]) (rest := [.ref a3]) liX_148 (sSg_init e6) ⟨Nat.le_of_ble_eq_true rfl, Nat.le_of_ble_eq_true rfl, Nat.le_of_ble_eq_true rfl, Nat.le_of_ble_eq_true rfl⟩ dX_joined_15 rfl rfl (Nat.le_of_ble_eq_true rfl) ?_
  refine v_astore (pc := 18) (ls' := [some (.ref a_0), some (.ref a_1), some (.ref a_2), some (.int i1), some (.ref a3), none, none]) dX_joined_18 (by decide) rfl ?_
  refine v_iconst (pc := 20) (0:Int32) dX_joined_20 rfl ?_
  refine v_istore (pc := 21) (ls' := [some (.ref a_0), some (.ref a_1), some (.ref a_2), some (.int i1), some (.ref a3), some (.int (0:Int32)), none]) dX_joined_21 (by decide) rfl ?_
  refine v_wk (ls' := [none, some (.ref a_1), some (.ref a_2), some (.int i1), some (.ref a3), some (.int (0:Int32)), none]) ⟨rfl, rfl, rfl, rfl, rfl, trivial⟩ ?_
  exact tX_joined_23 n h5 a_1 a_2 i1 a3 (0:Int32) hf
abbrev rmX_behind : Room := { frames := 6, cells := 4, slots := 115, locals := 139 }
def fX_behind_50 (n : Nat) (h : MH) (x0 : Nat) : Option (MH × Int32) := ((chk h x0 11).bind fun _ => (bnd2 (fX_found h x0 (1:Int32)) fun h1 i2 => (some (h1, i2))))
set_option maxRecDepth 20000 in
set_option maxHeartbeats 4000000 in
theorem tX_behind_50 {g : Gh} {h' : MH} {r' : Int32} (n : Nat) (h : MH) (x0 : Nat) (hf : fX_behind_50 n h x0 = some (h', r')) : V g yX_behind cX_behind 6 (some .int) rmX_behind (ZQ g rmX_behind h' (some (.int r'))) 0 0 h 50 [some (.ref x0), none, none, none, none, none] [] := by
  unfold fX_behind_50 at hf
  refine v_aload_n (i := 0) (pc := 50) dX_behind_50 rfl rfl ?_
  refine v_iconst (pc := 51) (1:Int32) dX_behind_51 rfl ?_
  obtain ⟨u4, cu4, hf⟩ := bnd hf
  obtain ⟨h1, i2, e3, hf⟩ := bndp hf
  refine v_M1 (pc := 52) (As := [.int (1:Int32)]) (rest := []) lmX_72 cu4 (sX_found e3) ⟨Nat.le_of_ble_eq_true rfl, Nat.le_of_ble_eq_true rfl, Nat.le_of_ble_eq_true rfl, Nat.le_of_ble_eq_true rfl⟩ dX_behind_52 rfl rfl (Nat.le_of_ble_eq_true rfl) ?_
  exact v_iret (pc := 55) dX_behind_55 (by decide) (by decide) hf
def fX_behind (n : Nat) (h : MH) (a_0 : Nat) (i_1 : Int32) (i_2 : Int32) (i_3 : Int32) : Option (MH × Int32) := (bnd2 (fX_noPlace n h i_1) fun h1 i2 => (if i2 = (0:Int32) then (bnd2 (fX_noPlace n h1 i_2) fun h3 i4 => (if i4 = (0:Int32) then (bnd2 (fX_noPlace n h3 i_3) fun h5 i6 => (if i6 = (0:Int32) then ((gfR h5 a_0 [11] 6).bind fun a7 => (rdRn h5 a7 4 i_2 ((gfR h5 a_0 [11] 6).bind fun a25 => (rdRn h5 a25 4 i_3 (fX_behind_50 n h5 a_0) fun a26 => (fX_behind_50 n h5 a_0))) fun a8 => ((gfR h5 a_0 [11] 6).bind fun a9 => (rdRn h5 a9 4 i_3 (fX_behind_50 n h5 a_0) fun a10 => ((gfR h5 a8 [8, 1, 2, 4] 0).bind fun a11 => ((gfI h5 a11 [7] 0).bind fun i12 => ((gfR h5 a10 [8, 1, 2, 4] 0).bind fun a13 => ((gfI h5 a13 [7] 0).bind fun i14 => (if (i12 + i14) ≤ (8:Int32) then ((gfR h5 a8 [8, 1, 2, 4] 0).bind fun a15 => ((gfR h5 a10 [8, 1, 2, 4] 0).bind fun a16 => ((chk h5 a_0 11).bind fun _ => (bnd2 (fX_joined n h5 a_0 a15 a16) fun h17 a18 => ((chk h17 a_0 11).bind fun _ => (bnd2 (fX_shelve n h17 a_0 i_1 a18) fun h19 i20 => (some (h19, i20)))))))) else (some (h5, (-1000003:Int32)))))))))))) else (some (h5, (-1000001:Int32))))) else (some (h3, (-1000001:Int32))))) else (some (h1, (-1000001:Int32)))))
set_option maxRecDepth 20000 in
set_option maxHeartbeats 4000000 in
theorem sX_behind {g : Gh} {h' : MH} {r' : Int32} {n : Nat} {h : MH} {a_0 : Nat} {i_1 : Int32} {i_2 : Int32} {i_3 : Int32} (hf : fX_behind n h a_0 i_1 i_2 i_3 = some (h', r')) : Sp g yX_behind cX_behind 6 (some .int) rmX_behind h [.ref a_0, .int i_1, .int i_2, .int i_3] h' (some (.int r')) := by
  refine sp_of (by decide) (Nat.le_of_ble_eq_true rfl) ?_
  change V g yX_behind cX_behind 6 (some .int) rmX_behind (ZQ g rmX_behind h' (some (.int r'))) 0 0 h 0 [some (.ref a_0), some (.int i_1), some (.int i_2), some (.int i_3), none, none] []
  unfold fX_behind at hf
  refine v_iload_n (i := 1) (pc := 0) dX_behind_0 rfl rfl ?_
  obtain ⟨h1, i2, e29, hf⟩ := bndp hf
  refine v_S1 (pc := 1) (As := [.int i_1]) (rest := []) lsX_143 (sX_noPlace e29) ⟨Nat.le_of_ble_eq_true rfl, Nat.le_of_ble_eq_true rfl, Nat.le_of_ble_eq_true rfl, Nat.le_of_ble_eq_true rfl⟩ dX_behind_1 rfl rfl (Nat.le_of_ble_eq_true rfl) ?_
  refine v_if_ne (pc := 4) (tgt := 21) dX_behind_4 rfl hf (fun hf => ?_) (fun hf => ?_)
  rotate_left
  · refine v_ldc (pc := 21) dX_behind_21 kiX_71 ?_
    exact v_iret (pc := 23) dX_behind_23 (by decide) (by decide) hf
  refine v_iload_n (i := 2) (pc := 7) dX_behind_7 rfl rfl ?_
  obtain ⟨h3, i4, e28, hf⟩ := bndp hf
  refine v_S1 (pc := 8) (As := [.int i_2]) (rest := []) lsX_143 (sX_noPlace e28) ⟨Nat.le_of_ble_eq_true rfl, Nat.le_of_ble_eq_true rfl, Nat.le_of_ble_eq_true rfl, Nat.le_of_ble_eq_true rfl⟩ dX_behind_8 rfl rfl (Nat.le_of_ble_eq_true rfl) ?_
  refine v_if_ne (pc := 11) (tgt := 21) dX_behind_11 rfl hf (fun hf => ?_) (fun hf => ?_)
  rotate_left
  · refine v_ldc (pc := 21) dX_behind_21 kiX_71 ?_
    exact v_iret (pc := 23) dX_behind_23 (by decide) (by decide) hf
  refine v_iload_n (i := 3) (pc := 14) dX_behind_14 rfl rfl ?_
  obtain ⟨h5, i6, e27, hf⟩ := bndp hf
  refine v_S1 (pc := 15) (As := [.int i_3]) (rest := []) lsX_143 (sX_noPlace e27) ⟨Nat.le_of_ble_eq_true rfl, Nat.le_of_ble_eq_true rfl, Nat.le_of_ble_eq_true rfl, Nat.le_of_ble_eq_true rfl⟩ dX_behind_15 rfl rfl (Nat.le_of_ble_eq_true rfl) ?_
  refine v_if_eq (pc := 18) (tgt := 24) dX_behind_18 rfl hf (fun hf => ?_) (fun hf => ?_)
  rotate_left
  · refine v_ldc (pc := 21) dX_behind_21 kiX_71 ?_
    exact v_iret (pc := 23) dX_behind_23 (by decide) (by decide) hf
  refine v_aload_n (i := 0) (pc := 24) dX_behind_24 rfl rfl ?_
  refine v_getR (pc := 25) fgX_59 dX_behind_25 hf (fun a7 hf => ?_)
  refine v_iload_n (i := 2) (pc := 28) dX_behind_28 rfl rfl ?_
  refine v_aald (pc := 29) (Or.inr (Or.inr rfl)) dX_behind_29 hf (fun hf => ?_) (fun a8 hf => ?_)
  · refine v_astoreN (pc := 30) (ls' := [some (.ref a_0), some (.int i_1), some (.int i_2), some (.int i_3), some (.null), none]) dX_behind_30 (by decide) rfl ?_
    refine v_aload_n (i := 0) (pc := 32) dX_behind_32 rfl rfl ?_
    refine v_getR (pc := 33) fgX_59 dX_behind_33 hf (fun a25 hf => ?_)
    refine v_iload_n (i := 3) (pc := 36) dX_behind_36 rfl rfl ?_
    refine v_aald (pc := 37) (Or.inr (Or.inr rfl)) dX_behind_37 hf (fun hf => ?_) (fun a26 hf => ?_)
    · refine v_astoreN (pc := 38) (ls' := [some (.ref a_0), some (.int i_1), some (.int i_2), some (.int i_3), some (.null), some (.null)]) dX_behind_38 (by decide) rfl ?_
      refine v_aloadN (pc := 40) dX_behind_40 rfl ?_
      refine v_ifnullN (pc := 42) (tgt := 50) dX_behind_42 rfl ?_
      refine v_wk (ls' := [some (.ref a_0), none, none, none, none, none]) ⟨rfl, trivial⟩ ?_
      exact tX_behind_50 n h5 a_0 hf
    refine v_astore (pc := 38) (ls' := [some (.ref a_0), some (.int i_1), some (.int i_2), some (.int i_3), some (.null), some (.ref a26)]) dX_behind_38 (by decide) rfl ?_
    refine v_aloadN (pc := 40) dX_behind_40 rfl ?_
    refine v_ifnullN (pc := 42) (tgt := 50) dX_behind_42 rfl ?_
    refine v_wk (ls' := [some (.ref a_0), none, none, none, none, none]) ⟨rfl, trivial⟩ ?_
    exact tX_behind_50 n h5 a_0 hf
  refine v_astore (pc := 30) (ls' := [some (.ref a_0), some (.int i_1), some (.int i_2), some (.int i_3), some (.ref a8), none]) dX_behind_30 (by decide) rfl ?_
  refine v_aload_n (i := 0) (pc := 32) dX_behind_32 rfl rfl ?_
  refine v_getR (pc := 33) fgX_59 dX_behind_33 hf (fun a9 hf => ?_)
  refine v_iload_n (i := 3) (pc := 36) dX_behind_36 rfl rfl ?_
  refine v_aald (pc := 37) (Or.inr (Or.inr rfl)) dX_behind_37 hf (fun hf => ?_) (fun a10 hf => ?_)
  · refine v_astoreN (pc := 38) (ls' := [some (.ref a_0), some (.int i_1), some (.int i_2), some (.int i_3), some (.ref a8), some (.null)]) dX_behind_38 (by decide) rfl ?_
    refine v_aload (pc := 40) dX_behind_40 rfl ?_
    refine v_ifnull (pc := 42) dX_behind_42 ?_
    refine v_aloadN (pc := 45) dX_behind_45 rfl ?_
    refine v_ifnonnullN (pc := 47) dX_behind_47 ?_
    refine v_wk (ls' := [some (.ref a_0), none, none, none, none, none]) ⟨rfl, trivial⟩ ?_
    exact tX_behind_50 n h5 a_0 hf
  refine v_astore (pc := 38) (ls' := [some (.ref a_0), some (.int i_1), some (.int i_2), some (.int i_3), some (.ref a8), some (.ref a10)]) dX_behind_38 (by decide) rfl ?_
  refine v_aload (pc := 40) dX_behind_40 rfl ?_
  refine v_ifnull (pc := 42) dX_behind_42 ?_
  refine v_aload (pc := 45) dX_behind_45 rfl ?_
  refine v_ifnonnull (pc := 47) (tgt := 56) dX_behind_47 rfl ?_
  refine v_aload (pc := 56) dX_behind_56 rfl ?_
  refine v_getR (pc := 58) fgX_160 dX_behind_58 hf (fun a11 hf => ?_)
  refine v_getI (pc := 61) fgX_164 dX_behind_61 hf (fun i12 hf => ?_)
  refine v_aload (pc := 64) dX_behind_64 rfl ?_
  refine v_getR (pc := 66) fgX_160 dX_behind_66 hf (fun a13 hf => ?_)
  refine v_getI (pc := 69) fgX_164 dX_behind_69 hf (fun i14 hf => ?_)
  refine v_iadd (pc := 72) dX_behind_72 ?_
  refine v_bipush (pc := 73) (8:Int32) dX_behind_73 rfl ?_
  refine v_icmp_le (pc := 75) (tgt := 81) dX_behind_75 rfl hf (fun hf => ?_) (fun hf => ?_)
  rotate_left
  · refine v_ldc (pc := 78) dX_behind_78 kiX_167 ?_
    exact v_iret (pc := 80) dX_behind_80 (by decide) (by decide) hf
  refine v_aload_n (i := 0) (pc := 81) dX_behind_81 rfl rfl ?_
  refine v_iload_n (i := 1) (pc := 82) dX_behind_82 rfl rfl ?_
  refine v_aload_n (i := 0) (pc := 83) dX_behind_83 rfl rfl ?_
  refine v_aload (pc := 84) dX_behind_84 rfl ?_
  refine v_getR (pc := 86) fgX_160 dX_behind_86 hf (fun a15 hf => ?_)
  refine v_aload (pc := 89) dX_behind_89 rfl ?_
  refine v_getR (pc := 91) fgX_160 dX_behind_91 hf (fun a16 hf => ?_)
  obtain ⟨u24, cu24, hf⟩ := bnd hf
  obtain ⟨h17, a18, e23, hf⟩ := bndp hf
  refine v_M1 (pc := 94) (As := [.ref a15, .ref a16]) (rest := [.int i_1, .ref a_0]) lmX_168 cu24 (sX_joined e23) ⟨Nat.le_of_ble_eq_true rfl, Nat.le_of_ble_eq_true rfl, Nat.le_of_ble_eq_true rfl, Nat.le_of_ble_eq_true rfl⟩ dX_behind_94 rfl rfl (Nat.le_of_ble_eq_true rfl) ?_
  obtain ⟨u22, cu22, hf⟩ := bnd hf
  obtain ⟨h19, i20, e21, hf⟩ := bndp hf
  refine v_M1 (pc := 97) (As := [.int i_1, .ref a18]) (rest := []) lmX_156 cu22 (sX_shelve e21) ⟨Nat.le_of_ble_eq_true rfl, Nat.le_of_ble_eq_true rfl, Nat.le_of_ble_eq_true rfl, Nat.le_of_ble_eq_true rfl⟩ dX_behind_97 rfl rfl (Nat.le_of_ble_eq_true rfl) ?_
  exact v_iret (pc := 100) dX_behind_100 (by decide) (by decide) hf
abbrev rmMo_less : Room := { frames := 0, cells := 0, slots := 0, locals := 0 }
def fMo_less (h : MH) (a_0 : Nat) (j_1 : Int64) (j_2 : Int64) : Option (MH × Int64) := ((gfL h a_0 [3] 0).bind fun j1 => ((gfL h a_0 [3] 0).bind fun j2 => (nzL j2 (some (h, (lrm ((j_1 + j1) - j_2) j2))))))
set_option maxRecDepth 20000 in
set_option maxHeartbeats 4000000 in
theorem sMo_less {g : Gh} {h' : MH} {r' : Int64} {h : MH} {a_0 : Nat} {j_1 : Int64} {j_2 : Int64} (hf : fMo_less h a_0 j_1 j_2 = some (h', r')) : Sp g yMo_less cMo_less 5 (some .long) rmMo_less h [.ref a_0, .long j_1, .long j_2] h' (some (.long r')) := by
  refine sp_of (by decide) (Nat.le_of_ble_eq_true rfl) ?_
  change V g yMo_less cMo_less 5 (some .long) rmMo_less (ZQ g rmMo_less h' (some (.long r'))) 0 0 h 0 [some (.ref a_0), some (.long j_1), none, some (.long j_2), none] []
  unfold fMo_less at hf
  refine v_lload_n (i := 1) (pc := 0) dMo_less_0 rfl rfl ?_
  refine v_aload_n (i := 0) (pc := 1) dMo_less_1 rfl rfl ?_
  refine v_getL (pc := 2) fgMo_15 dMo_less_2 hf (fun j1 hf => ?_)
  refine v_ladd (pc := 5) dMo_less_5 ?_
  refine v_lload_n (i := 3) (pc := 6) dMo_less_6 rfl rfl ?_
  refine v_lsub (pc := 7) dMo_less_7 ?_
  refine v_aload_n (i := 0) (pc := 8) dMo_less_8 rfl rfl ?_
  refine v_getL (pc := 9) fgMo_15 dMo_less_9 hf (fun j2 hf => ?_)
  obtain ⟨z3, hf⟩ := nzL_of hf
  refine v_lrem (pc := 12) dMo_less_12 z3 ?_
  exact v_lret (pc := 13) dMo_less_13 (by decide) (by decide) hf
abbrev rmX_undone : Room := { frames := 2, cells := 2, slots := 74, locals := 42 }
def bX_undone_25 (k14 : (MH × Nat × Nat × Nat × Int32) → Option (MH × Nat)) (n : Nat) (k25 : (MH × Nat × Nat × Nat × Int32 × Int32) → Option (MH × Nat)) (h : MH) (x0 : Nat) (x1 : Nat) (x2 : Nat) (x3 : Int32) (x4 : Int32) : Option (MH × Nat) := ((gfI h x1 [7] 0).bind fun i1 => (if i1 ≤ x4 then ((gfR h x0 [11] 0).bind fun a2 => ((chk h x1 7).bind fun _ => (bnd2 (fSg_b h x1 x3) fun h3 j4 => ((chk h3 a2 3).bind fun _ => (bnd2 (fMo_less h3 a2 (0:Int64) j4) fun h5 j6 => ((chk h5 x2 7).bind fun _ => ((fSg_putB h5 x2 x3 j6).bind fun h7 => (k14 (h7, x0, x1, x2, (x3 + (1:Int32))))))))))) else ((gfR h x0 [11] 0).bind fun a14 => ((chk h x1 7).bind fun _ => (bnd2 (fSg_a h x1 x4 x3) fun h15 j16 => ((chk h15 x1 7).bind fun _ => (bnd2 (fSg_b h15 x1 x3) fun h17 j18 => ((chk h17 a14 3).bind fun _ => (bnd2 (fMo_less h17 a14 j16 j18) fun h19 j20 => ((chk h19 x2 7).bind fun _ => ((fSg_putA h19 x2 x4 x3 j20).bind fun h21 => (k25 (h21, x0, x1, x2, x3, (x4 + (1:Int32)))))))))))))))
def fX_undone_25 (k14 : (MH × Nat × Nat × Nat × Int32) → Option (MH × Nat)) (n : Nat) (h : MH) (x0 : Nat) (x1 : Nat) (x2 : Nat) (x3 : Int32) (x4 : Int32) : Option (MH × Nat) := lp (fun n k s => bX_undone_25 k14 n k s.1 s.2.1 s.2.2.1 s.2.2.2.1 s.2.2.2.2.1 s.2.2.2.2.2) n (h, x0, x1, x2, x3, x4)
set_option maxRecDepth 20000 in
set_option maxHeartbeats 4000000 in
theorem tX_undone_25 {g : Gh} {h' : MH} {r' : Nat} {k14 : (MH × Nat × Nat × Nat × Int32) → Option (MH × Nat)} (hk14 : ∀ (h : MH) (x0 : Nat) (x1 : Nat) (x2 : Nat) (x3 : Int32), k14 (h, x0, x1, x2, x3) = some (h', r') → V g yX_undone cX_undone 5 (some (.object "TreeSteps$Stages")) rmX_undone (ZQ g rmX_undone h' (some (.ref r'))) 2 74 h 14 [some (.ref x0), some (.ref x1), some (.ref x2), some (.int x3), none] []) (n : Nat) (h : MH) (x0 : Nat) (x1 : Nat) (x2 : Nat) (x3 : Int32) (x4 : Int32) (hf : fX_undone_25 k14 n h x0 x1 x2 x3 x4 = some (h', r')) : V g yX_undone cX_undone 5 (some (.object "TreeSteps$Stages")) rmX_undone (ZQ g rmX_undone h' (some (.ref r'))) 2 74 h 25 [some (.ref x0), some (.ref x1), some (.ref x2), some (.int x3), some (.int x4)] [] := by
  unfold fX_undone_25 at hf
  refine lp_ind (P := fun s => V g yX_undone cX_undone 5 (some (.object "TreeSteps$Stages")) rmX_undone (ZQ g rmX_undone h' (some (.ref r'))) 2 74 s.1 25 [some (.ref s.2.1), some (.ref s.2.2.1), some (.ref s.2.2.2.1), some (.int s.2.2.2.2.1), some (.int s.2.2.2.2.2)] []) (fun n k25 hk25 s hf => ?_) n (h, x0, x1, x2, x3, x4) hf
  obtain ⟨h, x0, x1, x2, x3, x4⟩ := s
  replace hk25 : ∀ (h : MH) (x0 : Nat) (x1 : Nat) (x2 : Nat) (x3 : Int32) (x4 : Int32), k25 (h, x0, x1, x2, x3, x4) = some (h', r') → V g yX_undone cX_undone 5 (some (.object "TreeSteps$Stages")) rmX_undone (ZQ g rmX_undone h' (some (.ref r'))) 2 74 h 25 [some (.ref x0), some (.ref x1), some (.ref x2), some (.int x3), some (.int x4)] [] := fun h x0 x1 x2 x3 x4 => hk25 (h, x0, x1, x2, x3, x4)
  replace hf : bX_undone_25 k14 n k25 h x0 x1 x2 x3 x4 = some (h', r') := hf
  change V g yX_undone cX_undone 5 (some (.object "TreeSteps$Stages")) rmX_undone (ZQ g rmX_undone h' (some (.ref r'))) 2 74 h 25 [some (.ref x0), some (.ref x1), some (.ref x2), some (.int x3), some (.int x4)] []
  unfold bX_undone_25 at hf
  refine v_iload (pc := 25) dX_undone_25 rfl ?_
  refine v_aload_n (i := 1) (pc := 27) dX_undone_27 rfl rfl ?_
  refine v_getI (pc := 28) fgX_164 dX_undone_28 hf (fun i1 hf => ?_)
  refine v_icmp_ge (pc := 31) (tgt := 66) dX_undone_31 rfl hf (fun hf => ?_) (fun hf => ?_)
  · refine v_aload_n (i := 2) (pc := 66) dX_undone_66 rfl rfl ?_
    refine v_iload_n (i := 3) (pc := 67) dX_undone_67 rfl rfl ?_
    refine v_aload_n (i := 0) (pc := 68) dX_undone_68 rfl rfl ?_
    refine v_getR (pc := 69) fgX_12 dX_undone_69 hf (fun a2 hf => ?_)
    refine v_lconst (pc := 72) (0:Int64) dX_undone_72 rfl ?_
    refine v_aload_n (i := 1) (pc := 73) dX_undone_73 rfl rfl ?_
    refine v_iload_n (i := 3) (pc := 74) dX_undone_74 rfl rfl ?_
    obtain ⟨u13, cu13, hf⟩ := bnd hf
    obtain ⟨h3, j4, e12, hf⟩ := bndp hf
    refine v_M1 (pc := 75) (As := [.int x3]) (rest := [.long (0:Int64), .ref a2, .int x3, .ref x2]) lmX_187 cu13 (sSg_b e12) ⟨Nat.le_of_ble_eq_true rfl, Nat.le_of_ble_eq_true rfl, Nat.le_of_ble_eq_true rfl, Nat.le_of_ble_eq_true rfl⟩ dX_undone_75 rfl rfl (Nat.le_of_ble_eq_true rfl) ?_
    obtain ⟨u11, cu11, hf⟩ := bnd hf
    obtain ⟨h5, j6, e10, hf⟩ := bndp hf
    refine v_M1 (pc := 78) (As := [.long (0:Int64), .long j4]) (rest := [.int x3, .ref x2]) lmX_264 cu11 (sMo_less e10) ⟨Nat.le_of_ble_eq_true rfl, Nat.le_of_ble_eq_true rfl, Nat.le_of_ble_eq_true rfl, Nat.le_of_ble_eq_true rfl⟩ dX_undone_78 rfl rfl (Nat.le_of_ble_eq_true rfl) ?_
    obtain ⟨u9, cu9, hf⟩ := bnd hf
    obtain ⟨h7, e8, hf⟩ := bnd hf
    refine v_M0 (pc := 81) (As := [.int x3, .long j6]) (rest := []) lmX_260 cu9 (sSg_putB e8) ⟨Nat.le_of_ble_eq_true rfl, Nat.le_of_ble_eq_true rfl, Nat.le_of_ble_eq_true rfl, Nat.le_of_ble_eq_true rfl⟩ dX_undone_81 rfl rfl (Nat.le_of_ble_eq_true rfl) ?_
    refine v_iinc (pc := 84) (v := (x3 + (1:Int32))) (ls' := [some (.ref x0), some (.ref x1), some (.ref x2), some (.int (x3 + (1:Int32))), some (.int x4)]) dX_undone_84 rfl rfl (by decide) rfl ?_
    refine v_goto (pc := 87) (tgt := 14) dX_undone_87 rfl ?_
    refine v_wk (ls' := [some (.ref x0), some (.ref x1), some (.ref x2), some (.int (x3 + (1:Int32))), none]) ⟨rfl, rfl, rfl, rfl, trivial⟩ ?_
    exact hk14 h7 x0 x1 x2 (x3 + (1:Int32)) hf
  refine v_aload_n (i := 2) (pc := 34) dX_undone_34 rfl rfl ?_
  refine v_iload (pc := 35) dX_undone_35 rfl ?_
  refine v_iload_n (i := 3) (pc := 37) dX_undone_37 rfl rfl ?_
  refine v_aload_n (i := 0) (pc := 38) dX_undone_38 rfl rfl ?_
  refine v_getR (pc := 39) fgX_12 dX_undone_39 hf (fun a14 hf => ?_)
  refine v_aload_n (i := 1) (pc := 42) dX_undone_42 rfl rfl ?_
  refine v_iload (pc := 43) dX_undone_43 rfl ?_
  refine v_iload_n (i := 3) (pc := 45) dX_undone_45 rfl rfl ?_
  obtain ⟨u29, cu29, hf⟩ := bnd hf
  obtain ⟨h15, j16, e28, hf⟩ := bndp hf
  refine v_M1 (pc := 46) (As := [.int x4, .int x3]) (rest := [.ref a14, .int x3, .int x4, .ref x2]) lmX_191 cu29 (sSg_a e28) ⟨Nat.le_of_ble_eq_true rfl, Nat.le_of_ble_eq_true rfl, Nat.le_of_ble_eq_true rfl, Nat.le_of_ble_eq_true rfl⟩ dX_undone_46 rfl rfl (Nat.le_of_ble_eq_true rfl) ?_
  refine v_aload_n (i := 1) (pc := 49) dX_undone_49 rfl rfl ?_
  refine v_iload_n (i := 3) (pc := 50) dX_undone_50 rfl rfl ?_
  obtain ⟨u27, cu27, hf⟩ := bnd hf
  obtain ⟨h17, j18, e26, hf⟩ := bndp hf
  refine v_M1 (pc := 51) (As := [.int x3]) (rest := [.long j16, .ref a14, .int x3, .int x4, .ref x2]) lmX_187 cu27 (sSg_b e26) ⟨Nat.le_of_ble_eq_true rfl, Nat.le_of_ble_eq_true rfl, Nat.le_of_ble_eq_true rfl, Nat.le_of_ble_eq_true rfl⟩ dX_undone_51 rfl rfl (Nat.le_of_ble_eq_true rfl) ?_
  obtain ⟨u25, cu25, hf⟩ := bnd hf
  obtain ⟨h19, j20, e24, hf⟩ := bndp hf
  refine v_M1 (pc := 54) (As := [.long j16, .long j18]) (rest := [.int x3, .int x4, .ref x2]) lmX_264 cu25 (sMo_less e24) ⟨Nat.le_of_ble_eq_true rfl, Nat.le_of_ble_eq_true rfl, Nat.le_of_ble_eq_true rfl, Nat.le_of_ble_eq_true rfl⟩ dX_undone_54 rfl rfl (Nat.le_of_ble_eq_true rfl) ?_
  obtain ⟨u23, cu23, hf⟩ := bnd hf
  obtain ⟨h21, e22, hf⟩ := bnd hf
  refine v_M0 (pc := 57) (As := [.int x4, .int x3, .long j20]) (rest := []) lmX_256 cu23 (sSg_putA e22) ⟨Nat.le_of_ble_eq_true rfl, Nat.le_of_ble_eq_true rfl, Nat.le_of_ble_eq_true rfl, Nat.le_of_ble_eq_true rfl⟩ dX_undone_57 rfl rfl (Nat.le_of_ble_eq_true rfl) ?_
  refine v_iinc (pc := 60) (v := (x4 + (1:Int32))) (ls' := [some (.ref x0), some (.ref x1), some (.ref x2), some (.int x3), some (.int (x4 + (1:Int32)))]) dX_undone_60 rfl rfl (by decide) rfl ?_
  refine v_goto (pc := 63) (tgt := 25) dX_undone_63 rfl ?_
  refine v_wk (ls' := [some (.ref x0), some (.ref x1), some (.ref x2), some (.int x3), some (.int (x4 + (1:Int32)))]) ⟨rfl, rfl, rfl, rfl, rfl, trivial⟩ ?_
  exact hk25 h21 x0 x1 x2 x3 (x4 + (1:Int32)) hf
def bX_undone_14 (n : Nat) (k14 : (MH × Nat × Nat × Nat × Int32) → Option (MH × Nat)) (h : MH) (x0 : Nat) (x1 : Nat) (x2 : Nat) (x3 : Int32) : Option (MH × Nat) := ((gfI h x1 [7] 0).bind fun i1 => (if i1 ≤ x3 then (some (h, x2)) else (fX_undone_25 k14 n h x0 x1 x2 x3 (0:Int32))))
def fX_undone_14 (n : Nat) (h : MH) (x0 : Nat) (x1 : Nat) (x2 : Nat) (x3 : Int32) : Option (MH × Nat) := lp (fun n k s => bX_undone_14 n k s.1 s.2.1 s.2.2.1 s.2.2.2.1 s.2.2.2.2) n (h, x0, x1, x2, x3)
set_option maxRecDepth 20000 in
set_option maxHeartbeats 4000000 in
theorem tX_undone_14 {g : Gh} {h' : MH} {r' : Nat} (n : Nat) (h : MH) (x0 : Nat) (x1 : Nat) (x2 : Nat) (x3 : Int32) (hf : fX_undone_14 n h x0 x1 x2 x3 = some (h', r')) : V g yX_undone cX_undone 5 (some (.object "TreeSteps$Stages")) rmX_undone (ZQ g rmX_undone h' (some (.ref r'))) 2 74 h 14 [some (.ref x0), some (.ref x1), some (.ref x2), some (.int x3), none] [] := by
  unfold fX_undone_14 at hf
  refine lp_ind (P := fun s => V g yX_undone cX_undone 5 (some (.object "TreeSteps$Stages")) rmX_undone (ZQ g rmX_undone h' (some (.ref r'))) 2 74 s.1 14 [some (.ref s.2.1), some (.ref s.2.2.1), some (.ref s.2.2.2.1), some (.int s.2.2.2.2), none] []) (fun n k14 hk14 s hf => ?_) n (h, x0, x1, x2, x3) hf
  obtain ⟨h, x0, x1, x2, x3⟩ := s
  replace hk14 : ∀ (h : MH) (x0 : Nat) (x1 : Nat) (x2 : Nat) (x3 : Int32), k14 (h, x0, x1, x2, x3) = some (h', r') → V g yX_undone cX_undone 5 (some (.object "TreeSteps$Stages")) rmX_undone (ZQ g rmX_undone h' (some (.ref r'))) 2 74 h 14 [some (.ref x0), some (.ref x1), some (.ref x2), some (.int x3), none] [] := fun h x0 x1 x2 x3 => hk14 (h, x0, x1, x2, x3)
  replace hf : bX_undone_14 n k14 h x0 x1 x2 x3 = some (h', r') := hf
  change V g yX_undone cX_undone 5 (some (.object "TreeSteps$Stages")) rmX_undone (ZQ g rmX_undone h' (some (.ref r'))) 2 74 h 14 [some (.ref x0), some (.ref x1), some (.ref x2), some (.int x3), none] []
  unfold bX_undone_14 at hf
  refine v_iload_n (i := 3) (pc := 14) dX_undone_14 rfl rfl ?_
  refine v_aload_n (i := 1) (pc := 15) dX_undone_15 rfl rfl ?_
  refine v_getI (pc := 16) fgX_164 dX_undone_16 hf (fun i1 hf => ?_)
  refine v_icmp_ge (pc := 19) (tgt := 90) dX_undone_19 rfl hf (fun hf => ?_) (fun hf => ?_)
  · refine v_aload_n (i := 2) (pc := 90) dX_undone_90 rfl rfl ?_
    exact v_aret (pc := 91) dX_undone_91 (Or.inl ⟨_, rfl⟩) (by decide) (by decide) hf
  refine v_iconst (pc := 22) (0:Int32) dX_undone_22 rfl ?_
  refine v_istore (pc := 23) (ls' := [some (.ref x0), some (.ref x1), some (.ref x2), some (.int x3), some (.int (0:Int32))]) dX_undone_23 (by decide) rfl ?_
  refine v_wk (ls' := [some (.ref x0), some (.ref x1), some (.ref x2), some (.int x3), some (.int (0:Int32))]) ⟨rfl, rfl, rfl, rfl, rfl, trivial⟩ ?_
  exact tX_undone_25 hk14 n h x0 x1 x2 x3 (0:Int32) hf
def fX_undone (n : Nat) (h : MH) (a_0 : Nat) (a_1 : Nat) : Option (MH × Nat) := (alc h (cO 7 [.int 0, .null]) fun h1 a2 => ((gfI h1 a_1 [7] 0).bind fun i3 => ((fSg_init n h1 a2 i3).bind fun h4 => (fX_undone_14 n h4 a_0 a_1 a2 (0:Int32)))))
set_option maxRecDepth 20000 in
set_option maxHeartbeats 4000000 in
theorem sX_undone {g : Gh} {h' : MH} {r' : Nat} {n : Nat} {h : MH} {a_0 : Nat} {a_1 : Nat} (hf : fX_undone n h a_0 a_1 = some (h', r')) : Sp g yX_undone cX_undone 5 (some (.object "TreeSteps$Stages")) rmX_undone h [.ref a_0, .ref a_1] h' (some (.ref r')) := by
  refine sp_of (by decide) (Nat.le_of_ble_eq_true rfl) ?_
  change V g yX_undone cX_undone 5 (some (.object "TreeSteps$Stages")) rmX_undone (ZQ g rmX_undone h' (some (.ref r'))) 0 0 h 0 [some (.ref a_0), some (.ref a_1), none, none, none] []
  unfold fX_undone at hf
  refine v_new (pc := 0) noX_146 dX_undone_0 (Nat.le_of_ble_eq_true rfl) (Nat.le_of_ble_eq_true rfl) hf (fun h1 a2 hf => ?_)
  refine v_dup (pc := 3) dX_undone_3 rfl ?_
  refine v_aload_n (i := 1) (pc := 4) dX_undone_4 rfl rfl ?_
  refine v_getI (pc := 5) fgX_164 dX_undone_5 hf (fun i3 hf => ?_)
  obtain ⟨h4, e5, hf⟩ := bnd hf
  refine v_I0 (pc := 8) (As := [.int i3]) (rest := [.ref a2]) liX_148 (sSg_init e5) ⟨Nat.le_of_ble_eq_true rfl, Nat.le_of_ble_eq_true rfl, Nat.le_of_ble_eq_true rfl, Nat.le_of_ble_eq_true rfl⟩ dX_undone_8 rfl rfl (Nat.le_of_ble_eq_true rfl) ?_
  refine v_astore_n (i := 2) (pc := 11) (ls' := [some (.ref a_0), some (.ref a_1), some (.ref a2), none, none]) dX_undone_11 rfl (by decide) rfl ?_
  refine v_iconst (pc := 12) (0:Int32) dX_undone_12 rfl ?_
  refine v_istore_n (i := 3) (pc := 13) (ls' := [some (.ref a_0), some (.ref a_1), some (.ref a2), some (.int (0:Int32)), none]) dX_undone_13 rfl (by decide) rfl ?_
  refine v_wk (ls' := [some (.ref a_0), some (.ref a_1), some (.ref a2), some (.int (0:Int32)), none]) ⟨rfl, rfl, rfl, rfl, trivial⟩ ?_
  exact tX_undone_14 n h4 a_0 a_1 a2 (0:Int32) hf
abbrev rmX_turned : Room := { frames := 2, cells := 2, slots := 74, locals := 42 }
def bX_turned_31 (k22 : (MH × Nat × Nat × Int32 × Nat × Int32) → Option (MH × Nat)) (n : Nat) (k31 : (MH × Nat × Nat × Int32 × Nat × Int32 × Int32) → Option (MH × Nat)) (h : MH) (x0 : Nat) (x1 : Nat) (x2 : Int32) (x3 : Nat) (x4 : Int32) (x5 : Int32) : Option (MH × Nat) := (if x2 < x5 then ((chk h x1 7).bind fun _ => (bnd2 (fSg_b h x1 (x2 - x4)) fun h1 j2 => ((chk h1 x3 7).bind fun _ => ((fSg_putB h1 x3 x4 j2).bind fun h3 => (k22 (h3, x0, x1, x2, x3, (x4 + (1:Int32)))))))) else ((gfR h x0 [11] 0).bind fun a8 => ((chk h x1 7).bind fun _ => (bnd2 (fSg_b h x1 (x2 - x4)) fun h9 j10 => ((chk h9 x1 7).bind fun _ => (bnd2 (fSg_a h9 x1 (x2 - x5) (x2 - x4)) fun h11 j12 => ((chk h11 a8 3).bind fun _ => (bnd2 (fMo_less h11 a8 j10 j12) fun h13 j14 => ((chk h13 x3 7).bind fun _ => ((fSg_putA h13 x3 x5 x4 j14).bind fun h15 => (k31 (h15, x0, x1, x2, x3, x4, (x5 + (1:Int32))))))))))))))
def fX_turned_31 (k22 : (MH × Nat × Nat × Int32 × Nat × Int32) → Option (MH × Nat)) (n : Nat) (h : MH) (x0 : Nat) (x1 : Nat) (x2 : Int32) (x3 : Nat) (x4 : Int32) (x5 : Int32) : Option (MH × Nat) := lp (fun n k s => bX_turned_31 k22 n k s.1 s.2.1 s.2.2.1 s.2.2.2.1 s.2.2.2.2.1 s.2.2.2.2.2.1 s.2.2.2.2.2.2) n (h, x0, x1, x2, x3, x4, x5)
set_option maxRecDepth 20000 in
set_option maxHeartbeats 4000000 in
theorem tX_turned_31 {g : Gh} {h' : MH} {r' : Nat} {k22 : (MH × Nat × Nat × Int32 × Nat × Int32) → Option (MH × Nat)} (hk22 : ∀ (h : MH) (x0 : Nat) (x1 : Nat) (x2 : Int32) (x3 : Nat) (x4 : Int32), k22 (h, x0, x1, x2, x3, x4) = some (h', r') → V g yX_turned cX_turned 6 (some (.object "TreeSteps$Stages")) rmX_turned (ZQ g rmX_turned h' (some (.ref r'))) 2 74 h 22 [some (.ref x0), some (.ref x1), some (.int x2), some (.ref x3), some (.int x4), none] []) (n : Nat) (h : MH) (x0 : Nat) (x1 : Nat) (x2 : Int32) (x3 : Nat) (x4 : Int32) (x5 : Int32) (hf : fX_turned_31 k22 n h x0 x1 x2 x3 x4 x5 = some (h', r')) : V g yX_turned cX_turned 6 (some (.object "TreeSteps$Stages")) rmX_turned (ZQ g rmX_turned h' (some (.ref r'))) 2 74 h 31 [some (.ref x0), some (.ref x1), some (.int x2), some (.ref x3), some (.int x4), some (.int x5)] [] := by
  unfold fX_turned_31 at hf
  refine lp_ind (P := fun s => V g yX_turned cX_turned 6 (some (.object "TreeSteps$Stages")) rmX_turned (ZQ g rmX_turned h' (some (.ref r'))) 2 74 s.1 31 [some (.ref s.2.1), some (.ref s.2.2.1), some (.int s.2.2.2.1), some (.ref s.2.2.2.2.1), some (.int s.2.2.2.2.2.1), some (.int s.2.2.2.2.2.2)] []) (fun n k31 hk31 s hf => ?_) n (h, x0, x1, x2, x3, x4, x5) hf
  obtain ⟨h, x0, x1, x2, x3, x4, x5⟩ := s
  replace hk31 : ∀ (h : MH) (x0 : Nat) (x1 : Nat) (x2 : Int32) (x3 : Nat) (x4 : Int32) (x5 : Int32), k31 (h, x0, x1, x2, x3, x4, x5) = some (h', r') → V g yX_turned cX_turned 6 (some (.object "TreeSteps$Stages")) rmX_turned (ZQ g rmX_turned h' (some (.ref r'))) 2 74 h 31 [some (.ref x0), some (.ref x1), some (.int x2), some (.ref x3), some (.int x4), some (.int x5)] [] := fun h x0 x1 x2 x3 x4 x5 => hk31 (h, x0, x1, x2, x3, x4, x5)
  replace hf : bX_turned_31 k22 n k31 h x0 x1 x2 x3 x4 x5 = some (h', r') := hf
  change V g yX_turned cX_turned 6 (some (.object "TreeSteps$Stages")) rmX_turned (ZQ g rmX_turned h' (some (.ref r'))) 2 74 h 31 [some (.ref x0), some (.ref x1), some (.int x2), some (.ref x3), some (.int x4), some (.int x5)] []
  unfold bX_turned_31 at hf
  refine v_iload (pc := 31) dX_turned_31 rfl ?_
  refine v_iload_n (i := 2) (pc := 33) dX_turned_33 rfl rfl ?_
  refine v_icmp_gt (pc := 34) (tgt := 78) dX_turned_34 rfl hf (fun hf => ?_) (fun hf => ?_)
  · refine v_aload_n (i := 3) (pc := 78) dX_turned_78 rfl rfl ?_
    refine v_iload (pc := 79) dX_turned_79 rfl ?_
    refine v_aload_n (i := 1) (pc := 81) dX_turned_81 rfl rfl ?_
    refine v_iload_n (i := 2) (pc := 82) dX_turned_82 rfl rfl ?_
    refine v_iload (pc := 83) dX_turned_83 rfl ?_
    refine v_isub (pc := 85) dX_turned_85 ?_
    obtain ⟨u7, cu7, hf⟩ := bnd hf
    obtain ⟨h1, j2, e6, hf⟩ := bndp hf
    refine v_M1 (pc := 86) (As := [.int (x2 - x4)]) (rest := [.int x4, .ref x3]) lmX_187 cu7 (sSg_b e6) ⟨Nat.le_of_ble_eq_true rfl, Nat.le_of_ble_eq_true rfl, Nat.le_of_ble_eq_true rfl, Nat.le_of_ble_eq_true rfl⟩ dX_turned_86 rfl rfl (Nat.le_of_ble_eq_true rfl) ?_
    obtain ⟨u5, cu5, hf⟩ := bnd hf
    obtain ⟨h3, e4, hf⟩ := bnd hf
    refine v_M0 (pc := 89) (As := [.int x4, .long j2]) (rest := []) lmX_260 cu5 (sSg_putB e4) ⟨Nat.le_of_ble_eq_true rfl, Nat.le_of_ble_eq_true rfl, Nat.le_of_ble_eq_true rfl, Nat.le_of_ble_eq_true rfl⟩ dX_turned_89 rfl rfl (Nat.le_of_ble_eq_true rfl) ?_
    refine v_iinc (pc := 92) (v := (x4 + (1:Int32))) (ls' := [some (.ref x0), some (.ref x1), some (.int x2), some (.ref x3), some (.int (x4 + (1:Int32))), some (.int x5)]) dX_turned_92 rfl rfl (by decide) rfl ?_
    refine v_goto (pc := 95) (tgt := 22) dX_turned_95 rfl ?_
    refine v_wk (ls' := [some (.ref x0), some (.ref x1), some (.int x2), some (.ref x3), some (.int (x4 + (1:Int32))), none]) ⟨rfl, rfl, rfl, rfl, rfl, trivial⟩ ?_
    exact hk22 h3 x0 x1 x2 x3 (x4 + (1:Int32)) hf
  refine v_aload_n (i := 3) (pc := 37) dX_turned_37 rfl rfl ?_
  refine v_iload (pc := 38) dX_turned_38 rfl ?_
  refine v_iload (pc := 40) dX_turned_40 rfl ?_
  refine v_aload_n (i := 0) (pc := 42) dX_turned_42 rfl rfl ?_
  refine v_getR (pc := 43) fgX_12 dX_turned_43 hf (fun a8 hf => ?_)
  refine v_aload_n (i := 1) (pc := 46) dX_turned_46 rfl rfl ?_
  refine v_iload_n (i := 2) (pc := 47) dX_turned_47 rfl rfl ?_
  refine v_iload (pc := 48) dX_turned_48 rfl ?_
  refine v_isub (pc := 50) dX_turned_50 ?_
  obtain ⟨u23, cu23, hf⟩ := bnd hf
  obtain ⟨h9, j10, e22, hf⟩ := bndp hf
  refine v_M1 (pc := 51) (As := [.int (x2 - x4)]) (rest := [.ref a8, .int x4, .int x5, .ref x3]) lmX_187 cu23 (sSg_b e22) ⟨Nat.le_of_ble_eq_true rfl, Nat.le_of_ble_eq_true rfl, Nat.le_of_ble_eq_true rfl, Nat.le_of_ble_eq_true rfl⟩ dX_turned_51 rfl rfl (Nat.le_of_ble_eq_true rfl) ?_
  refine v_aload_n (i := 1) (pc := 54) dX_turned_54 rfl rfl ?_
  refine v_iload_n (i := 2) (pc := 55) dX_turned_55 rfl rfl ?_
  refine v_iload (pc := 56) dX_turned_56 rfl ?_
  refine v_isub (pc := 58) dX_turned_58 ?_
  refine v_iload_n (i := 2) (pc := 59) dX_turned_59 rfl rfl ?_
  refine v_iload (pc := 60) dX_turned_60 rfl ?_
  refine v_isub (pc := 62) dX_turned_62 ?_
  obtain ⟨u21, cu21, hf⟩ := bnd hf
  obtain ⟨h11, j12, e20, hf⟩ := bndp hf
  refine v_M1 (pc := 63) (As := [.int (x2 - x5), .int (x2 - x4)]) (rest := [.long j10, .ref a8, .int x4, .int x5, .ref x3]) lmX_191 cu21 (sSg_a e20) ⟨Nat.le_of_ble_eq_true rfl, Nat.le_of_ble_eq_true rfl, Nat.le_of_ble_eq_true rfl, Nat.le_of_ble_eq_true rfl⟩ dX_turned_63 rfl rfl (Nat.le_of_ble_eq_true rfl) ?_
  obtain ⟨u19, cu19, hf⟩ := bnd hf
  obtain ⟨h13, j14, e18, hf⟩ := bndp hf
  refine v_M1 (pc := 66) (As := [.long j10, .long j12]) (rest := [.int x4, .int x5, .ref x3]) lmX_264 cu19 (sMo_less e18) ⟨Nat.le_of_ble_eq_true rfl, Nat.le_of_ble_eq_true rfl, Nat.le_of_ble_eq_true rfl, Nat.le_of_ble_eq_true rfl⟩ dX_turned_66 rfl rfl (Nat.le_of_ble_eq_true rfl) ?_
  obtain ⟨u17, cu17, hf⟩ := bnd hf
  obtain ⟨h15, e16, hf⟩ := bnd hf
  refine v_M0 (pc := 69) (As := [.int x5, .int x4, .long j14]) (rest := []) lmX_256 cu17 (sSg_putA e16) ⟨Nat.le_of_ble_eq_true rfl, Nat.le_of_ble_eq_true rfl, Nat.le_of_ble_eq_true rfl, Nat.le_of_ble_eq_true rfl⟩ dX_turned_69 rfl rfl (Nat.le_of_ble_eq_true rfl) ?_
  refine v_iinc (pc := 72) (v := (x5 + (1:Int32))) (ls' := [some (.ref x0), some (.ref x1), some (.int x2), some (.ref x3), some (.int x4), some (.int (x5 + (1:Int32)))]) dX_turned_72 rfl rfl (by decide) rfl ?_
  refine v_goto (pc := 75) (tgt := 31) dX_turned_75 rfl ?_
  refine v_wk (ls' := [some (.ref x0), some (.ref x1), some (.int x2), some (.ref x3), some (.int x4), some (.int (x5 + (1:Int32)))]) ⟨rfl, rfl, rfl, rfl, rfl, rfl, trivial⟩ ?_
  exact hk31 h15 x0 x1 x2 x3 x4 (x5 + (1:Int32)) hf
def bX_turned_22 (n : Nat) (k22 : (MH × Nat × Nat × Int32 × Nat × Int32) → Option (MH × Nat)) (h : MH) (x0 : Nat) (x1 : Nat) (x2 : Int32) (x3 : Nat) (x4 : Int32) : Option (MH × Nat) := (if x2 < x4 then (some (h, x3)) else (fX_turned_31 k22 n h x0 x1 x2 x3 x4 (0:Int32)))
def fX_turned_22 (n : Nat) (h : MH) (x0 : Nat) (x1 : Nat) (x2 : Int32) (x3 : Nat) (x4 : Int32) : Option (MH × Nat) := lp (fun n k s => bX_turned_22 n k s.1 s.2.1 s.2.2.1 s.2.2.2.1 s.2.2.2.2.1 s.2.2.2.2.2) n (h, x0, x1, x2, x3, x4)
set_option maxRecDepth 20000 in
set_option maxHeartbeats 4000000 in
theorem tX_turned_22 {g : Gh} {h' : MH} {r' : Nat} (n : Nat) (h : MH) (x0 : Nat) (x1 : Nat) (x2 : Int32) (x3 : Nat) (x4 : Int32) (hf : fX_turned_22 n h x0 x1 x2 x3 x4 = some (h', r')) : V g yX_turned cX_turned 6 (some (.object "TreeSteps$Stages")) rmX_turned (ZQ g rmX_turned h' (some (.ref r'))) 2 74 h 22 [some (.ref x0), some (.ref x1), some (.int x2), some (.ref x3), some (.int x4), none] [] := by
  unfold fX_turned_22 at hf
  refine lp_ind (P := fun s => V g yX_turned cX_turned 6 (some (.object "TreeSteps$Stages")) rmX_turned (ZQ g rmX_turned h' (some (.ref r'))) 2 74 s.1 22 [some (.ref s.2.1), some (.ref s.2.2.1), some (.int s.2.2.2.1), some (.ref s.2.2.2.2.1), some (.int s.2.2.2.2.2), none] []) (fun n k22 hk22 s hf => ?_) n (h, x0, x1, x2, x3, x4) hf
  obtain ⟨h, x0, x1, x2, x3, x4⟩ := s
  replace hk22 : ∀ (h : MH) (x0 : Nat) (x1 : Nat) (x2 : Int32) (x3 : Nat) (x4 : Int32), k22 (h, x0, x1, x2, x3, x4) = some (h', r') → V g yX_turned cX_turned 6 (some (.object "TreeSteps$Stages")) rmX_turned (ZQ g rmX_turned h' (some (.ref r'))) 2 74 h 22 [some (.ref x0), some (.ref x1), some (.int x2), some (.ref x3), some (.int x4), none] [] := fun h x0 x1 x2 x3 x4 => hk22 (h, x0, x1, x2, x3, x4)
  replace hf : bX_turned_22 n k22 h x0 x1 x2 x3 x4 = some (h', r') := hf
  change V g yX_turned cX_turned 6 (some (.object "TreeSteps$Stages")) rmX_turned (ZQ g rmX_turned h' (some (.ref r'))) 2 74 h 22 [some (.ref x0), some (.ref x1), some (.int x2), some (.ref x3), some (.int x4), none] []
  unfold bX_turned_22 at hf
  refine v_iload (pc := 22) dX_turned_22 rfl ?_
  refine v_iload_n (i := 2) (pc := 24) dX_turned_24 rfl rfl ?_
  refine v_icmp_gt (pc := 25) (tgt := 98) dX_turned_25 rfl hf (fun hf => ?_) (fun hf => ?_)
  · refine v_aload_n (i := 3) (pc := 98) dX_turned_98 rfl rfl ?_
    exact v_aret (pc := 99) dX_turned_99 (Or.inl ⟨_, rfl⟩) (by decide) (by decide) hf
  refine v_iconst (pc := 28) (0:Int32) dX_turned_28 rfl ?_
  refine v_istore (pc := 29) (ls' := [some (.ref x0), some (.ref x1), some (.int x2), some (.ref x3), some (.int x4), some (.int (0:Int32))]) dX_turned_29 (by decide) rfl ?_
  refine v_wk (ls' := [some (.ref x0), some (.ref x1), some (.int x2), some (.ref x3), some (.int x4), some (.int (0:Int32))]) ⟨rfl, rfl, rfl, rfl, rfl, rfl, trivial⟩ ?_
  exact tX_turned_31 hk22 n h x0 x1 x2 x3 x4 (0:Int32) hf
def fX_turned (n : Nat) (h : MH) (a_0 : Nat) (a_1 : Nat) : Option (MH × Nat) := ((gfI h a_1 [7] 0).bind fun i1 => (alc h (cO 7 [.int 0, .null]) fun h2 a3 => ((gfI h2 a_1 [7] 0).bind fun i4 => ((fSg_init n h2 a3 i4).bind fun h5 => (fX_turned_22 n h5 a_0 a_1 (i1 - (1:Int32)) a3 (0:Int32))))))
set_option maxRecDepth 20000 in
set_option maxHeartbeats 4000000 in
theorem sX_turned {g : Gh} {h' : MH} {r' : Nat} {n : Nat} {h : MH} {a_0 : Nat} {a_1 : Nat} (hf : fX_turned n h a_0 a_1 = some (h', r')) : Sp g yX_turned cX_turned 6 (some (.object "TreeSteps$Stages")) rmX_turned h [.ref a_0, .ref a_1] h' (some (.ref r')) := by
  refine sp_of (by decide) (Nat.le_of_ble_eq_true rfl) ?_
  change V g yX_turned cX_turned 6 (some (.object "TreeSteps$Stages")) rmX_turned (ZQ g rmX_turned h' (some (.ref r'))) 0 0 h 0 [some (.ref a_0), some (.ref a_1), none, none, none, none] []
  unfold fX_turned at hf
  refine v_aload_n (i := 1) (pc := 0) dX_turned_0 rfl rfl ?_
  refine v_getI (pc := 1) fgX_164 dX_turned_1 hf (fun i1 hf => ?_)
  refine v_iconst (pc := 4) (1:Int32) dX_turned_4 rfl ?_
  refine v_isub (pc := 5) dX_turned_5 ?_
  refine v_istore_n (i := 2) (pc := 6) (ls' := [some (.ref a_0), some (.ref a_1), some (.int (i1 - (1:Int32))), none, none, none]) dX_turned_6 rfl (by decide) rfl ?_
  refine v_new (pc := 7) noX_146 dX_turned_7 (Nat.le_of_ble_eq_true rfl) (Nat.le_of_ble_eq_true rfl) hf (fun h2 a3 hf => ?_)
  refine v_dup (pc := 10) dX_turned_10 rfl ?_
  refine v_aload_n (i := 1) (pc := 11) dX_turned_11 rfl rfl ?_
  refine v_getI (pc := 12) fgX_164 dX_turned_12 hf (fun i4 hf => ?_)
  obtain ⟨h5, e6, hf⟩ := bnd hf
  refine v_I0 (pc := 15) (As := [.int i4]) (rest := [.ref a3]) liX_148 (sSg_init e6) ⟨Nat.le_of_ble_eq_true rfl, Nat.le_of_ble_eq_true rfl, Nat.le_of_ble_eq_true rfl, Nat.le_of_ble_eq_true rfl⟩ dX_turned_15 rfl rfl (Nat.le_of_ble_eq_true rfl) ?_
  refine v_astore_n (i := 3) (pc := 18) (ls' := [some (.ref a_0), some (.ref a_1), some (.int (i1 - (1:Int32))), some (.ref a3), none, none]) dX_turned_18 rfl (by decide) rfl ?_
  refine v_iconst (pc := 19) (0:Int32) dX_turned_19 rfl ?_
  refine v_istore (pc := 20) (ls' := [some (.ref a_0), some (.ref a_1), some (.int (i1 - (1:Int32))), some (.ref a3), some (.int (0:Int32)), none]) dX_turned_20 (by decide) rfl ?_
  refine v_wk (ls' := [some (.ref a_0), some (.ref a_1), some (.int (i1 - (1:Int32))), some (.ref a3), some (.int (0:Int32)), none]) ⟨rfl, rfl, rfl, rfl, rfl, trivial⟩ ?_
  exact tX_turned_22 n h5 a_0 a_1 (i1 - (1:Int32)) a3 (0:Int32) hf
abbrev rmX_turn : Room := { frames := 6, cells := 4, slots := 115, locals := 139 }
def fX_turn_72 (n : Nat) (h : MH) (s0 : Nat) (s1 : Int32) (s2 : Nat) : Option (MH × Int32) := ((chk h s2 11).bind fun _ => (bnd2 (fX_shelve n h s2 s1 s0) fun h1 i2 => (some (h1, i2))))
set_option maxRecDepth 20000 in
set_option maxHeartbeats 4000000 in
theorem tX_turn_72 {g : Gh} {h' : MH} {r' : Int32} (n : Nat) (h : MH) (s0 : Nat) (s1 : Int32) (s2 : Nat) (hf : fX_turn_72 n h s0 s1 s2 = some (h', r')) : V g yX_turn cX_turn 5 (some .int) rmX_turn (ZQ g rmX_turn h' (some (.int r'))) 2 74 h 72 [none, none, none, none, none] [.ref s0, .int s1, .ref s2] := by
  unfold fX_turn_72 at hf
  obtain ⟨u4, cu4, hf⟩ := bnd hf
  obtain ⟨h1, i2, e3, hf⟩ := bndp hf
  refine v_M1 (pc := 72) (As := [.int s1, .ref s0]) (rest := []) lmX_156 cu4 (sX_shelve e3) ⟨Nat.le_of_ble_eq_true rfl, Nat.le_of_ble_eq_true rfl, Nat.le_of_ble_eq_true rfl, Nat.le_of_ble_eq_true rfl⟩ dX_turn_72 rfl rfl (Nat.le_of_ble_eq_true rfl) ?_
  exact v_iret (pc := 75) dX_turn_75 (by decide) (by decide) hf
def fX_turn (n : Nat) (h : MH) (a_0 : Nat) (i_1 : Int32) (i_2 : Int32) (i_3 : Int32) : Option (MH × Int32) := (bnd2 (fX_noPlace n h i_1) fun h1 i2 => (if i2 = (0:Int32) then (bnd2 (fX_noPlace n h1 i_2) fun h3 i4 => (if i4 = (0:Int32) then (if i_3 < (0:Int32) then (some (h3, (-1000001:Int32))) else (if i_3 ≤ (1:Int32) then ((gfR h3 a_0 [11] 6).bind fun a5 => (rdRn h3 a5 4 i_2 ((chk h3 a_0 11).bind fun _ => (bnd2 (fX_found h3 a_0 (1:Int32)) fun h17 i18 => (some (h17, i18)))) fun a6 => (if i_3 = (0:Int32) then ((gfR h3 a6 [8, 1, 2, 4] 0).bind fun a12 => ((chk h3 a_0 11).bind fun _ => (bnd2 (fX_undone n h3 a_0 a12) fun h13 a14 => (fX_turn_72 n h13 a14 i_1 a_0)))) else ((gfR h3 a6 [8, 1, 2, 4] 0).bind fun a7 => ((chk h3 a_0 11).bind fun _ => (bnd2 (fX_turned n h3 a_0 a7) fun h8 a9 => (fX_turn_72 n h8 a9 i_1 a_0))))))) else (some (h3, (-1000001:Int32))))) else (some (h3, (-1000001:Int32))))) else (some (h1, (-1000001:Int32)))))
set_option maxRecDepth 20000 in
set_option maxHeartbeats 4000000 in
theorem sX_turn {g : Gh} {h' : MH} {r' : Int32} {n : Nat} {h : MH} {a_0 : Nat} {i_1 : Int32} {i_2 : Int32} {i_3 : Int32} (hf : fX_turn n h a_0 i_1 i_2 i_3 = some (h', r')) : Sp g yX_turn cX_turn 5 (some .int) rmX_turn h [.ref a_0, .int i_1, .int i_2, .int i_3] h' (some (.int r')) := by
  refine sp_of (by decide) (Nat.le_of_ble_eq_true rfl) ?_
  change V g yX_turn cX_turn 5 (some .int) rmX_turn (ZQ g rmX_turn h' (some (.int r'))) 0 0 h 0 [some (.ref a_0), some (.int i_1), some (.int i_2), some (.int i_3), none] []
  unfold fX_turn at hf
  refine v_iload_n (i := 1) (pc := 0) dX_turn_0 rfl rfl ?_
  obtain ⟨h1, i2, e22, hf⟩ := bndp hf
  refine v_S1 (pc := 1) (As := [.int i_1]) (rest := []) lsX_143 (sX_noPlace e22) ⟨Nat.le_of_ble_eq_true rfl, Nat.le_of_ble_eq_true rfl, Nat.le_of_ble_eq_true rfl, Nat.le_of_ble_eq_true rfl⟩ dX_turn_1 rfl rfl (Nat.le_of_ble_eq_true rfl) ?_
  refine v_if_ne (pc := 4) (tgt := 23) dX_turn_4 rfl hf (fun hf => ?_) (fun hf => ?_)
  rotate_left
  · refine v_ldc (pc := 23) dX_turn_23 kiX_71 ?_
    exact v_iret (pc := 25) dX_turn_25 (by decide) (by decide) hf
  refine v_iload_n (i := 2) (pc := 7) dX_turn_7 rfl rfl ?_
  obtain ⟨h3, i4, e21, hf⟩ := bndp hf
  refine v_S1 (pc := 8) (As := [.int i_2]) (rest := []) lsX_143 (sX_noPlace e21) ⟨Nat.le_of_ble_eq_true rfl, Nat.le_of_ble_eq_true rfl, Nat.le_of_ble_eq_true rfl, Nat.le_of_ble_eq_true rfl⟩ dX_turn_8 rfl rfl (Nat.le_of_ble_eq_true rfl) ?_
  refine v_if_ne (pc := 11) (tgt := 23) dX_turn_11 rfl hf (fun hf => ?_) (fun hf => ?_)
  rotate_left
  · refine v_ldc (pc := 23) dX_turn_23 kiX_71 ?_
    exact v_iret (pc := 25) dX_turn_25 (by decide) (by decide) hf
  refine v_iload_n (i := 3) (pc := 14) dX_turn_14 rfl rfl ?_
  refine v_if_lt (pc := 15) (tgt := 23) dX_turn_15 rfl hf (fun hf => ?_) (fun hf => ?_)
  · refine v_ldc (pc := 23) dX_turn_23 kiX_71 ?_
    exact v_iret (pc := 25) dX_turn_25 (by decide) (by decide) hf
  refine v_iload_n (i := 3) (pc := 18) dX_turn_18 rfl rfl ?_
  refine v_iconst (pc := 19) (1:Int32) dX_turn_19 rfl ?_
  refine v_icmp_le (pc := 20) (tgt := 26) dX_turn_20 rfl hf (fun hf => ?_) (fun hf => ?_)
  rotate_left
  · refine v_ldc (pc := 23) dX_turn_23 kiX_71 ?_
    exact v_iret (pc := 25) dX_turn_25 (by decide) (by decide) hf
  refine v_aload_n (i := 0) (pc := 26) dX_turn_26 rfl rfl ?_
  refine v_getR (pc := 27) fgX_59 dX_turn_27 hf (fun a5 hf => ?_)
  refine v_iload_n (i := 2) (pc := 30) dX_turn_30 rfl rfl ?_
  refine v_aald (pc := 31) (Or.inr (Or.inr rfl)) dX_turn_31 hf (fun hf => ?_) (fun a6 hf => ?_)
  · refine v_astoreN (pc := 32) (ls' := [some (.ref a_0), some (.int i_1), some (.int i_2), some (.int i_3), some (.null)]) dX_turn_32 (by decide) rfl ?_
    refine v_aloadN (pc := 34) dX_turn_34 rfl ?_
    refine v_ifnonnullN (pc := 36) dX_turn_36 ?_
    refine v_aload_n (i := 0) (pc := 39) dX_turn_39 rfl rfl ?_
    refine v_iconst (pc := 40) (1:Int32) dX_turn_40 rfl ?_
    obtain ⟨u20, cu20, hf⟩ := bnd hf
    obtain ⟨h17, i18, e19, hf⟩ := bndp hf
    refine v_M1 (pc := 41) (As := [.int (1:Int32)]) (rest := []) lmX_72 cu20 (sX_found e19) ⟨Nat.le_of_ble_eq_true rfl, Nat.le_of_ble_eq_true rfl, Nat.le_of_ble_eq_true rfl, Nat.le_of_ble_eq_true rfl⟩ dX_turn_41 rfl rfl (Nat.le_of_ble_eq_true rfl) ?_
    exact v_iret (pc := 44) dX_turn_44 (by decide) (by decide) hf
  refine v_astore (pc := 32) (ls' := [some (.ref a_0), some (.int i_1), some (.int i_2), some (.int i_3), some (.ref a6)]) dX_turn_32 (by decide) rfl ?_
  refine v_aload (pc := 34) dX_turn_34 rfl ?_
  refine v_ifnonnull (pc := 36) (tgt := 45) dX_turn_36 rfl ?_
  refine v_aload_n (i := 0) (pc := 45) dX_turn_45 rfl rfl ?_
  refine v_iload_n (i := 1) (pc := 46) dX_turn_46 rfl rfl ?_
  refine v_iload_n (i := 3) (pc := 47) dX_turn_47 rfl rfl ?_
  refine v_if_ne (pc := 48) (tgt := 63) dX_turn_48 rfl hf (fun hf => ?_) (fun hf => ?_)
  rotate_left
  · refine v_aload_n (i := 0) (pc := 63) dX_turn_63 rfl rfl ?_
    refine v_aload (pc := 64) dX_turn_64 rfl ?_
    refine v_getR (pc := 66) fgX_160 dX_turn_66 hf (fun a7 hf => ?_)
    obtain ⟨u11, cu11, hf⟩ := bnd hf
    obtain ⟨h8, a9, e10, hf⟩ := bndp hf
    refine v_M1 (pc := 69) (As := [.ref a7]) (rest := [.int i_1, .ref a_0]) lmX_176 cu11 (sX_turned e10) ⟨Nat.le_of_ble_eq_true rfl, Nat.le_of_ble_eq_true rfl, Nat.le_of_ble_eq_true rfl, Nat.le_of_ble_eq_true rfl⟩ dX_turn_69 rfl rfl (Nat.le_of_ble_eq_true rfl) ?_
    refine v_wk (ls' := [none, none, none, none, none]) trivial ?_
    exact tX_turn_72 n h8 a9 i_1 a_0 hf
  refine v_aload_n (i := 0) (pc := 51) dX_turn_51 rfl rfl ?_
  refine v_aload (pc := 52) dX_turn_52 rfl ?_
  refine v_getR (pc := 54) fgX_160 dX_turn_54 hf (fun a12 hf => ?_)
  obtain ⟨u16, cu16, hf⟩ := bnd hf
  obtain ⟨h13, a14, e15, hf⟩ := bndp hf
  refine v_M1 (pc := 57) (As := [.ref a12]) (rest := [.int i_1, .ref a_0]) lmX_172 cu16 (sX_undone e15) ⟨Nat.le_of_ble_eq_true rfl, Nat.le_of_ble_eq_true rfl, Nat.le_of_ble_eq_true rfl, Nat.le_of_ble_eq_true rfl⟩ dX_turn_57 rfl rfl (Nat.le_of_ble_eq_true rfl) ?_
  refine v_goto (pc := 60) (tgt := 72) dX_turn_60 rfl ?_
  refine v_wk (ls' := [none, none, none, none, none]) trivial ?_
  exact tX_turn_72 n h13 a14 i_1 a_0 hf
abbrev rmX_scaled : Room := { frames := 2, cells := 2, slots := 74, locals := 42 }
def bX_scaled_15 (n : Nat) (k15 : (MH × Nat × Nat × Int32 × Nat × Int32) → Option (MH × Nat)) (h : MH) (x0 : Nat) (x1 : Nat) (x2 : Int32) (x3 : Nat) (x4 : Int32) : Option (MH × Nat) := ((gfR h x3 [7] 1).bind fun a1 => ((lenA h a1).bind fun i2 => (if i2 ≤ x4 then (some (h, x3)) else ((gfR h x3 [7] 1).bind fun a3 => ((gfR h x0 [11] 0).bind fun a4 => ((gfR h x1 [7] 1).bind fun a5 => ((rdI h a5 x4).bind fun i6 => ((chk h a4 3).bind fun _ => (bnd2 (fMo_times h a4 x2.toInt64 i6.toInt64) fun h7 j8 => ((wrI h7 a3 x4 j8.toInt32).bind fun h9 => (k15 (h9, x0, x1, x2, x3, (x4 + (1:Int32))))))))))))))
def fX_scaled_15 (n : Nat) (h : MH) (x0 : Nat) (x1 : Nat) (x2 : Int32) (x3 : Nat) (x4 : Int32) : Option (MH × Nat) := lp (fun n k s => bX_scaled_15 n k s.1 s.2.1 s.2.2.1 s.2.2.2.1 s.2.2.2.2.1 s.2.2.2.2.2) n (h, x0, x1, x2, x3, x4)
set_option maxRecDepth 20000 in
set_option maxHeartbeats 4000000 in
theorem tX_scaled_15 {g : Gh} {h' : MH} {r' : Nat} (n : Nat) (h : MH) (x0 : Nat) (x1 : Nat) (x2 : Int32) (x3 : Nat) (x4 : Int32) (hf : fX_scaled_15 n h x0 x1 x2 x3 x4 = some (h', r')) : V g yX_scaled cX_scaled 5 (some (.object "TreeSteps$Stages")) rmX_scaled (ZQ g rmX_scaled h' (some (.ref r'))) 2 74 h 15 [some (.ref x0), some (.ref x1), some (.int x2), some (.ref x3), some (.int x4)] [] := by
  unfold fX_scaled_15 at hf
  refine lp_ind (P := fun s => V g yX_scaled cX_scaled 5 (some (.object "TreeSteps$Stages")) rmX_scaled (ZQ g rmX_scaled h' (some (.ref r'))) 2 74 s.1 15 [some (.ref s.2.1), some (.ref s.2.2.1), some (.int s.2.2.2.1), some (.ref s.2.2.2.2.1), some (.int s.2.2.2.2.2)] []) (fun n k15 hk15 s hf => ?_) n (h, x0, x1, x2, x3, x4) hf
  obtain ⟨h, x0, x1, x2, x3, x4⟩ := s
  replace hk15 : ∀ (h : MH) (x0 : Nat) (x1 : Nat) (x2 : Int32) (x3 : Nat) (x4 : Int32), k15 (h, x0, x1, x2, x3, x4) = some (h', r') → V g yX_scaled cX_scaled 5 (some (.object "TreeSteps$Stages")) rmX_scaled (ZQ g rmX_scaled h' (some (.ref r'))) 2 74 h 15 [some (.ref x0), some (.ref x1), some (.int x2), some (.ref x3), some (.int x4)] [] := fun h x0 x1 x2 x3 x4 => hk15 (h, x0, x1, x2, x3, x4)
  replace hf : bX_scaled_15 n k15 h x0 x1 x2 x3 x4 = some (h', r') := hf
  change V g yX_scaled cX_scaled 5 (some (.object "TreeSteps$Stages")) rmX_scaled (ZQ g rmX_scaled h' (some (.ref r'))) 2 74 h 15 [some (.ref x0), some (.ref x1), some (.int x2), some (.ref x3), some (.int x4)] []
  unfold bX_scaled_15 at hf
  refine v_iload (pc := 15) dX_scaled_15 rfl ?_
  refine v_aload_n (i := 3) (pc := 17) dX_scaled_17 rfl rfl ?_
  refine v_getR (pc := 18) fgX_149 dX_scaled_18 hf (fun a1 hf => ?_)
  refine v_alen (pc := 21) dX_scaled_21 hf (fun i2 hf => ?_)
  refine v_icmp_ge (pc := 22) (tgt := 56) dX_scaled_22 rfl hf (fun hf => ?_) (fun hf => ?_)
  · refine v_aload_n (i := 3) (pc := 56) dX_scaled_56 rfl rfl ?_
    exact v_aret (pc := 57) dX_scaled_57 (Or.inl ⟨_, rfl⟩) (by decide) (by decide) hf
  refine v_aload_n (i := 3) (pc := 25) dX_scaled_25 rfl rfl ?_
  refine v_getR (pc := 26) fgX_149 dX_scaled_26 hf (fun a3 hf => ?_)
  refine v_iload (pc := 29) dX_scaled_29 rfl ?_
  refine v_aload_n (i := 0) (pc := 31) dX_scaled_31 rfl rfl ?_
  refine v_getR (pc := 32) fgX_12 dX_scaled_32 hf (fun a4 hf => ?_)
  refine v_iload_n (i := 2) (pc := 35) dX_scaled_35 rfl rfl ?_
  refine v_i2l (pc := 36) dX_scaled_36 ?_
  refine v_aload_n (i := 1) (pc := 37) dX_scaled_37 rfl rfl ?_
  refine v_getR (pc := 38) fgX_149 dX_scaled_38 hf (fun a5 hf => ?_)
  refine v_iload (pc := 41) dX_scaled_41 rfl ?_
  refine v_iald (pc := 43) dX_scaled_43 hf (fun i6 hf => ?_)
  refine v_i2l (pc := 44) dX_scaled_44 ?_
  obtain ⟨u11, cu11, hf⟩ := bnd hf
  obtain ⟨h7, j8, e10, hf⟩ := bndp hf
  refine v_M1 (pc := 45) (As := [.long x2.toInt64, .long i6.toInt64]) (rest := [.int x4, .ref a3]) lmX_252 cu11 (sMo_times e10) ⟨Nat.le_of_ble_eq_true rfl, Nat.le_of_ble_eq_true rfl, Nat.le_of_ble_eq_true rfl, Nat.le_of_ble_eq_true rfl⟩ dX_scaled_45 rfl rfl (Nat.le_of_ble_eq_true rfl) ?_
  refine v_l2i (pc := 48) dX_scaled_48 ?_
  refine v_iast (pc := 49) dX_scaled_49 hf (fun h9 hf => ?_)
  refine v_iinc (pc := 50) (v := (x4 + (1:Int32))) (ls' := [some (.ref x0), some (.ref x1), some (.int x2), some (.ref x3), some (.int (x4 + (1:Int32)))]) dX_scaled_50 rfl rfl (by decide) rfl ?_
  refine v_goto (pc := 53) (tgt := 15) dX_scaled_53 rfl ?_
  refine v_wk (ls' := [some (.ref x0), some (.ref x1), some (.int x2), some (.ref x3), some (.int (x4 + (1:Int32)))]) ⟨rfl, rfl, rfl, rfl, rfl, trivial⟩ ?_
  exact hk15 h9 x0 x1 x2 x3 (x4 + (1:Int32)) hf
def fX_scaled (n : Nat) (h : MH) (a_0 : Nat) (a_1 : Nat) (i_2 : Int32) : Option (MH × Nat) := (alc h (cO 7 [.int 0, .null]) fun h1 a2 => ((gfI h1 a_1 [7] 0).bind fun i3 => ((fSg_init n h1 a2 i3).bind fun h4 => (fX_scaled_15 n h4 a_0 a_1 i_2 a2 (0:Int32)))))
set_option maxRecDepth 20000 in
set_option maxHeartbeats 4000000 in
theorem sX_scaled {g : Gh} {h' : MH} {r' : Nat} {n : Nat} {h : MH} {a_0 : Nat} {a_1 : Nat} {i_2 : Int32} (hf : fX_scaled n h a_0 a_1 i_2 = some (h', r')) : Sp g yX_scaled cX_scaled 5 (some (.object "TreeSteps$Stages")) rmX_scaled h [.ref a_0, .ref a_1, .int i_2] h' (some (.ref r')) := by
  refine sp_of (by decide) (Nat.le_of_ble_eq_true rfl) ?_
  change V g yX_scaled cX_scaled 5 (some (.object "TreeSteps$Stages")) rmX_scaled (ZQ g rmX_scaled h' (some (.ref r'))) 0 0 h 0 [some (.ref a_0), some (.ref a_1), some (.int i_2), none, none] []
  unfold fX_scaled at hf
  refine v_new (pc := 0) noX_146 dX_scaled_0 (Nat.le_of_ble_eq_true rfl) (Nat.le_of_ble_eq_true rfl) hf (fun h1 a2 hf => ?_)
  refine v_dup (pc := 3) dX_scaled_3 rfl ?_
  refine v_aload_n (i := 1) (pc := 4) dX_scaled_4 rfl rfl ?_
  refine v_getI (pc := 5) fgX_164 dX_scaled_5 hf (fun i3 hf => ?_)
  obtain ⟨h4, e5, hf⟩ := bnd hf
  refine v_I0 (pc := 8) (As := [.int i3]) (rest := [.ref a2]) liX_148 (sSg_init e5) ⟨Nat.le_of_ble_eq_true rfl, Nat.le_of_ble_eq_true rfl, Nat.le_of_ble_eq_true rfl, Nat.le_of_ble_eq_true rfl⟩ dX_scaled_8 rfl rfl (Nat.le_of_ble_eq_true rfl) ?_
  refine v_astore_n (i := 3) (pc := 11) (ls' := [some (.ref a_0), some (.ref a_1), some (.int i_2), some (.ref a2), none]) dX_scaled_11 rfl (by decide) rfl ?_
  refine v_iconst (pc := 12) (0:Int32) dX_scaled_12 rfl ?_
  refine v_istore (pc := 13) (ls' := [some (.ref a_0), some (.ref a_1), some (.int i_2), some (.ref a2), some (.int (0:Int32))]) dX_scaled_13 (by decide) rfl ?_
  refine v_wk (ls' := [some (.ref a_0), some (.ref a_1), some (.int i_2), some (.ref a2), some (.int (0:Int32))]) ⟨rfl, rfl, rfl, rfl, rfl, trivial⟩ ?_
  exact tX_scaled_15 n h4 a_0 a_1 i_2 a2 (0:Int32) hf
abbrev rmX_scale : Room := { frames := 6, cells := 4, slots := 115, locals := 139 }
def fX_scale (n : Nat) (h : MH) (a_0 : Nat) (i_1 : Int32) (i_2 : Int32) (i_3 : Int32) : Option (MH × Int32) := (bnd2 (fX_noPlace n h i_1) fun h1 i2 => (if i2 = (0:Int32) then (bnd2 (fX_noPlace n h1 i_2) fun h3 i4 => (if i4 = (0:Int32) then (if i_3 < (0:Int32) then (some (h3, (-1000001:Int32))) else ((gfR h3 a_0 [11] 0).bind fun a5 => ((gfL h3 a5 [3] 0).bind fun j6 => (if i_3.toInt64 < j6 then ((gfR h3 a_0 [11] 6).bind fun a7 => (rdRn h3 a7 4 i_2 ((chk h3 a_0 11).bind fun _ => (bnd2 (fX_found h3 a_0 (1:Int32)) fun h18 i19 => (some (h18, i19)))) fun a8 => ((gfR h3 a8 [8, 1, 2, 4] 0).bind fun a9 => ((chk h3 a_0 11).bind fun _ => (bnd2 (fX_scaled n h3 a_0 a9 i_3) fun h10 a11 => ((chk h10 a_0 11).bind fun _ => (bnd2 (fX_shelve n h10 a_0 i_1 a11) fun h12 i13 => (some (h12, i13))))))))) else (some (h3, (-1000001:Int32))))))) else (some (h3, (-1000001:Int32))))) else (some (h1, (-1000001:Int32)))))
set_option maxRecDepth 20000 in
set_option maxHeartbeats 4000000 in
theorem sX_scale {g : Gh} {h' : MH} {r' : Int32} {n : Nat} {h : MH} {a_0 : Nat} {i_1 : Int32} {i_2 : Int32} {i_3 : Int32} (hf : fX_scale n h a_0 i_1 i_2 i_3 = some (h', r')) : Sp g yX_scale cX_scale 5 (some .int) rmX_scale h [.ref a_0, .int i_1, .int i_2, .int i_3] h' (some (.int r')) := by
  refine sp_of (by decide) (Nat.le_of_ble_eq_true rfl) ?_
  change V g yX_scale cX_scale 5 (some .int) rmX_scale (ZQ g rmX_scale h' (some (.int r'))) 0 0 h 0 [some (.ref a_0), some (.int i_1), some (.int i_2), some (.int i_3), none] []
  unfold fX_scale at hf
  refine v_iload_n (i := 1) (pc := 0) dX_scale_0 rfl rfl ?_
  obtain ⟨h1, i2, e23, hf⟩ := bndp hf
  refine v_S1 (pc := 1) (As := [.int i_1]) (rest := []) lsX_143 (sX_noPlace e23) ⟨Nat.le_of_ble_eq_true rfl, Nat.le_of_ble_eq_true rfl, Nat.le_of_ble_eq_true rfl, Nat.le_of_ble_eq_true rfl⟩ dX_scale_1 rfl rfl (Nat.le_of_ble_eq_true rfl) ?_
  refine v_if_ne (pc := 4) (tgt := 31) dX_scale_4 rfl hf (fun hf => ?_) (fun hf => ?_)
  rotate_left
  · refine v_ldc (pc := 31) dX_scale_31 kiX_71 ?_
    exact v_iret (pc := 33) dX_scale_33 (by decide) (by decide) hf
  refine v_iload_n (i := 2) (pc := 7) dX_scale_7 rfl rfl ?_
  obtain ⟨h3, i4, e22, hf⟩ := bndp hf
  refine v_S1 (pc := 8) (As := [.int i_2]) (rest := []) lsX_143 (sX_noPlace e22) ⟨Nat.le_of_ble_eq_true rfl, Nat.le_of_ble_eq_true rfl, Nat.le_of_ble_eq_true rfl, Nat.le_of_ble_eq_true rfl⟩ dX_scale_8 rfl rfl (Nat.le_of_ble_eq_true rfl) ?_
  refine v_if_ne (pc := 11) (tgt := 31) dX_scale_11 rfl hf (fun hf => ?_) (fun hf => ?_)
  rotate_left
  · refine v_ldc (pc := 31) dX_scale_31 kiX_71 ?_
    exact v_iret (pc := 33) dX_scale_33 (by decide) (by decide) hf
  refine v_iload_n (i := 3) (pc := 14) dX_scale_14 rfl rfl ?_
  refine v_if_lt (pc := 15) (tgt := 31) dX_scale_15 rfl hf (fun hf => ?_) (fun hf => ?_)
  · refine v_ldc (pc := 31) dX_scale_31 kiX_71 ?_
    exact v_iret (pc := 33) dX_scale_33 (by decide) (by decide) hf
  refine v_iload_n (i := 3) (pc := 18) dX_scale_18 rfl rfl ?_
  refine v_i2l (pc := 19) dX_scale_19 ?_
  refine v_aload_n (i := 0) (pc := 20) dX_scale_20 rfl rfl ?_
  refine v_getR (pc := 21) fgX_12 dX_scale_21 hf (fun a5 hf => ?_)
  refine v_getL (pc := 24) fgX_179 dX_scale_24 hf (fun j6 hf => ?_)
  refine v_lcmp_lt (pc := 27) (tgt := 34) dX_scale_27 dX_scale_28 rfl hf (fun hf => ?_) (fun hf => ?_)
  rotate_left
  · refine v_ldc (pc := 31) dX_scale_31 kiX_71 ?_
    exact v_iret (pc := 33) dX_scale_33 (by decide) (by decide) hf
  refine v_aload_n (i := 0) (pc := 34) dX_scale_34 rfl rfl ?_
  refine v_getR (pc := 35) fgX_59 dX_scale_35 hf (fun a7 hf => ?_)
  refine v_iload_n (i := 2) (pc := 38) dX_scale_38 rfl rfl ?_
  refine v_aald (pc := 39) (Or.inr (Or.inr rfl)) dX_scale_39 hf (fun hf => ?_) (fun a8 hf => ?_)
  · refine v_astoreN (pc := 40) (ls' := [some (.ref a_0), some (.int i_1), some (.int i_2), some (.int i_3), some (.null)]) dX_scale_40 (by decide) rfl ?_
    refine v_aloadN (pc := 42) dX_scale_42 rfl ?_
    refine v_ifnonnullN (pc := 44) dX_scale_44 ?_
    refine v_aload_n (i := 0) (pc := 47) dX_scale_47 rfl rfl ?_
    refine v_iconst (pc := 48) (1:Int32) dX_scale_48 rfl ?_
    obtain ⟨u21, cu21, hf⟩ := bnd hf
    obtain ⟨h18, i19, e20, hf⟩ := bndp hf
    refine v_M1 (pc := 49) (As := [.int (1:Int32)]) (rest := []) lmX_72 cu21 (sX_found e20) ⟨Nat.le_of_ble_eq_true rfl, Nat.le_of_ble_eq_true rfl, Nat.le_of_ble_eq_true rfl, Nat.le_of_ble_eq_true rfl⟩ dX_scale_49 rfl rfl (Nat.le_of_ble_eq_true rfl) ?_
    exact v_iret (pc := 52) dX_scale_52 (by decide) (by decide) hf
  refine v_astore (pc := 40) (ls' := [some (.ref a_0), some (.int i_1), some (.int i_2), some (.int i_3), some (.ref a8)]) dX_scale_40 (by decide) rfl ?_
  refine v_aload (pc := 42) dX_scale_42 rfl ?_
  refine v_ifnonnull (pc := 44) (tgt := 53) dX_scale_44 rfl ?_
  refine v_aload_n (i := 0) (pc := 53) dX_scale_53 rfl rfl ?_
  refine v_iload_n (i := 1) (pc := 54) dX_scale_54 rfl rfl ?_
  refine v_aload_n (i := 0) (pc := 55) dX_scale_55 rfl rfl ?_
  refine v_aload (pc := 56) dX_scale_56 rfl ?_
  refine v_getR (pc := 58) fgX_160 dX_scale_58 hf (fun a9 hf => ?_)
  refine v_iload_n (i := 3) (pc := 61) dX_scale_61 rfl rfl ?_
  obtain ⟨u17, cu17, hf⟩ := bnd hf
  obtain ⟨h10, a11, e16, hf⟩ := bndp hf
  refine v_M1 (pc := 62) (As := [.ref a9, .int i_3]) (rest := [.int i_1, .ref a_0]) lmX_183 cu17 (sX_scaled e16) ⟨Nat.le_of_ble_eq_true rfl, Nat.le_of_ble_eq_true rfl, Nat.le_of_ble_eq_true rfl, Nat.le_of_ble_eq_true rfl⟩ dX_scale_62 rfl rfl (Nat.le_of_ble_eq_true rfl) ?_
  obtain ⟨u15, cu15, hf⟩ := bnd hf
  obtain ⟨h12, i13, e14, hf⟩ := bndp hf
  refine v_M1 (pc := 65) (As := [.int i_1, .ref a11]) (rest := []) lmX_156 cu15 (sX_shelve e14) ⟨Nat.le_of_ble_eq_true rfl, Nat.le_of_ble_eq_true rfl, Nat.le_of_ble_eq_true rfl, Nat.le_of_ble_eq_true rfl⟩ dX_scale_65 rfl rfl (Nat.le_of_ble_eq_true rfl) ?_
  exact v_iret (pc := 68) dX_scale_68 (by decide) (by decide) hf
abbrev rmX_clear : Room := { frames := 1, cells := 0, slots := 0, locals := 20 }
def fX_clear_24 (n : Nat) (h : MH) (s0 : Int32) (x0 : Nat) (x1 : Int32) : Option (MH × Int32) := ((gfR h x0 [11] 6).bind fun a1 => ((wrR h a1 4 x1 none).bind fun h2 => (some (h2, s0))))
set_option maxRecDepth 20000 in
set_option maxHeartbeats 4000000 in
theorem tX_clear_24 {g : Gh} {h' : MH} {r' : Int32} (n : Nat) (h : MH) (s0 : Int32) (x0 : Nat) (x1 : Int32) (hf : fX_clear_24 n h s0 x0 x1 = some (h', r')) : V g yX_clear cX_clear 3 (some .int) rmX_clear (ZQ g rmX_clear h' (some (.int r'))) 0 0 h 24 [some (.ref x0), some (.int x1), none] [.int s0] := by
  unfold fX_clear_24 at hf
  refine v_istore_n (i := 2) (pc := 24) (ls' := [some (.ref x0), some (.int x1), some (.int s0)]) dX_clear_24 rfl (by decide) rfl ?_
  refine v_aload_n (i := 0) (pc := 25) dX_clear_25 rfl rfl ?_
  refine v_getR (pc := 26) fgX_59 dX_clear_26 hf (fun a1 hf => ?_)
  refine v_iload_n (i := 1) (pc := 29) dX_clear_29 rfl rfl ?_
  refine v_null (pc := 30) dX_clear_30 ?_
  refine v_aastN (pc := 31) (Or.inr rfl) dX_clear_31 hf (fun h2 hf => ?_)
  refine v_iload_n (i := 2) (pc := 32) dX_clear_32 rfl rfl ?_
  exact v_iret (pc := 33) dX_clear_33 (by decide) (by decide) hf
def fX_clear (n : Nat) (h : MH) (a_0 : Nat) (i_1 : Int32) : Option (MH × Int32) := (bnd2 (fX_noPlace n h i_1) fun h1 i2 => (if i2 = (0:Int32) then ((gfR h1 a_0 [11] 6).bind fun a3 => (rdRn h1 a3 4 i_1 (fX_clear_24 n h1 (0:Int32) a_0 i_1) fun a4 => (fX_clear_24 n h1 (1:Int32) a_0 i_1))) else (some (h1, (-1000001:Int32)))))
set_option maxRecDepth 20000 in
set_option maxHeartbeats 4000000 in
theorem sX_clear {g : Gh} {h' : MH} {r' : Int32} {n : Nat} {h : MH} {a_0 : Nat} {i_1 : Int32} (hf : fX_clear n h a_0 i_1 = some (h', r')) : Sp g yX_clear cX_clear 3 (some .int) rmX_clear h [.ref a_0, .int i_1] h' (some (.int r')) := by
  refine sp_of (by decide) (Nat.le_of_ble_eq_true rfl) ?_
  change V g yX_clear cX_clear 3 (some .int) rmX_clear (ZQ g rmX_clear h' (some (.int r'))) 0 0 h 0 [some (.ref a_0), some (.int i_1), none] []
  unfold fX_clear at hf
  refine v_iload_n (i := 1) (pc := 0) dX_clear_0 rfl rfl ?_
  obtain ⟨h1, i2, e5, hf⟩ := bndp hf
  refine v_S1 (pc := 1) (As := [.int i_1]) (rest := []) lsX_143 (sX_noPlace e5) ⟨Nat.le_of_ble_eq_true rfl, Nat.le_of_ble_eq_true rfl, Nat.le_of_ble_eq_true rfl, Nat.le_of_ble_eq_true rfl⟩ dX_clear_1 rfl rfl (Nat.le_of_ble_eq_true rfl) ?_
  refine v_if_eq (pc := 4) (tgt := 10) dX_clear_4 rfl hf (fun hf => ?_) (fun hf => ?_)
  rotate_left
  · refine v_ldc (pc := 7) dX_clear_7 kiX_71 ?_
    exact v_iret (pc := 9) dX_clear_9 (by decide) (by decide) hf
  refine v_aload_n (i := 0) (pc := 10) dX_clear_10 rfl rfl ?_
  refine v_getR (pc := 11) fgX_59 dX_clear_11 hf (fun a3 hf => ?_)
  refine v_iload_n (i := 1) (pc := 14) dX_clear_14 rfl rfl ?_
  refine v_aald (pc := 15) (Or.inr (Or.inr rfl)) dX_clear_15 hf (fun hf => ?_) (fun a4 hf => ?_)
  · refine v_ifnonnullN (pc := 16) dX_clear_16 ?_
    refine v_iconst (pc := 19) (0:Int32) dX_clear_19 rfl ?_
    refine v_goto (pc := 20) (tgt := 24) dX_clear_20 rfl ?_
    refine v_wk (ls' := [some (.ref a_0), some (.int i_1), none]) ⟨rfl, rfl, trivial⟩ ?_
    exact tX_clear_24 n h1 (0:Int32) a_0 i_1 hf
  refine v_ifnonnull (pc := 16) (tgt := 23) dX_clear_16 rfl ?_
  refine v_iconst (pc := 23) (1:Int32) dX_clear_23 rfl ?_
  refine v_wk (ls' := [some (.ref a_0), some (.int i_1), none]) ⟨rfl, rfl, trivial⟩ ?_
  exact tX_clear_24 n h1 (1:Int32) a_0 i_1 hf
abbrev rmX_number : Room := { frames := 1, cells := 0, slots := 0, locals := 22 }
def fX_number_103 (n : Nat) (h : MH) (s0 : Int64) (s1 : Nat) : Option (MH × Int32) := ((chk h s1 11).bind fun _ => (bnd2 (fX_well h s1 s0.toInt32) fun h1 i2 => (some (h1, i2))))
set_option maxRecDepth 20000 in
set_option maxHeartbeats 4000000 in
theorem tX_number_103 {g : Gh} {h' : MH} {r' : Int32} (n : Nat) (h : MH) (s0 : Int64) (s1 : Nat) (hf : fX_number_103 n h s0 s1 = some (h', r')) : V g yX_number cX_number 6 (some .int) rmX_number (ZQ g rmX_number h' (some (.int r'))) 0 0 h 103 [none, none, none, none, none, none] [.long s0, .ref s1] := by
  unfold fX_number_103 at hf
  refine v_l2i (pc := 103) dX_number_103 ?_
  obtain ⟨u4, cu4, hf⟩ := bnd hf
  obtain ⟨h1, i2, e3, hf⟩ := bndp hf
  refine v_M1 (pc := 104) (As := [.int s0.toInt32]) (rest := []) lmX_80 cu4 (sX_well e3) ⟨Nat.le_of_ble_eq_true rfl, Nat.le_of_ble_eq_true rfl, Nat.le_of_ble_eq_true rfl, Nat.le_of_ble_eq_true rfl⟩ dX_number_104 rfl rfl (Nat.le_of_ble_eq_true rfl) ?_
  exact v_iret (pc := 107) dX_number_107 (by decide) (by decide) hf
def fX_number (n : Nat) (h : MH) (a_0 : Nat) (i_1 : Int32) (i_2 : Int32) (i_3 : Int32) : Option (MH × Int32) := (bnd2 (fX_noPlace n h i_1) fun h1 i2 => (if i2 = (0:Int32) then ((gfR h1 a_0 [11] 6).bind fun a3 => (rdRn h1 a3 4 i_1 ((chk h1 a_0 11).bind fun _ => (bnd2 (fX_found h1 a_0 (1:Int32)) fun h21 i22 => (some (h21, i22)))) fun a4 => ((gfR h1 a4 [8, 1, 2, 4] 0).bind fun a5 => ((gfI h1 a5 [7] 0).bind fun i6 => (if i_2 = (-1:Int32) then ((chk h1 a_0 11).bind fun _ => (bnd2 (fX_well h1 a_0 i6) fun h17 i18 => (some (h17, i18)))) else (if i_2 < (0:Int32) then (some (h1, (-1000001:Int32))) else (if i6 < i_2 then (some (h1, (-1000001:Int32))) else (if i_3 < (0:Int32) then (some (h1, (-1000001:Int32))) else (if i_3 < i6 then (if i_2 = i6 then ((gfR h1 a4 [8, 1, 2, 4] 0).bind fun a12 => ((chk h1 a12 7).bind fun _ => (bnd2 (fSg_b h1 a12 i_3) fun h13 j14 => (fX_number_103 n h13 j14 a_0)))) else ((gfR h1 a4 [8, 1, 2, 4] 0).bind fun a7 => ((chk h1 a7 7).bind fun _ => (bnd2 (fSg_a h1 a7 i_2 i_3) fun h8 j9 => (fX_number_103 n h8 j9 a_0))))) else (some (h1, (-1000001:Int32)))))))))))) else (some (h1, (-1000001:Int32)))))
set_option maxRecDepth 20000 in
set_option maxHeartbeats 4000000 in
theorem sX_number {g : Gh} {h' : MH} {r' : Int32} {n : Nat} {h : MH} {a_0 : Nat} {i_1 : Int32} {i_2 : Int32} {i_3 : Int32} (hf : fX_number n h a_0 i_1 i_2 i_3 = some (h', r')) : Sp g yX_number cX_number 6 (some .int) rmX_number h [.ref a_0, .int i_1, .int i_2, .int i_3] h' (some (.int r')) := by
  refine sp_of (by decide) (Nat.le_of_ble_eq_true rfl) ?_
  change V g yX_number cX_number 6 (some .int) rmX_number (ZQ g rmX_number h' (some (.int r'))) 0 0 h 0 [some (.ref a_0), some (.int i_1), some (.int i_2), some (.int i_3), none, none] []
  unfold fX_number at hf
  refine v_iload_n (i := 1) (pc := 0) dX_number_0 rfl rfl ?_
  obtain ⟨h1, i2, e25, hf⟩ := bndp hf
  refine v_S1 (pc := 1) (As := [.int i_1]) (rest := []) lsX_143 (sX_noPlace e25) ⟨Nat.le_of_ble_eq_true rfl, Nat.le_of_ble_eq_true rfl, Nat.le_of_ble_eq_true rfl, Nat.le_of_ble_eq_true rfl⟩ dX_number_1 rfl rfl (Nat.le_of_ble_eq_true rfl) ?_
  refine v_if_eq (pc := 4) (tgt := 10) dX_number_4 rfl hf (fun hf => ?_) (fun hf => ?_)
  rotate_left
  · refine v_ldc (pc := 7) dX_number_7 kiX_71 ?_
    exact v_iret (pc := 9) dX_number_9 (by decide) (by decide) hf
  refine v_aload_n (i := 0) (pc := 10) dX_number_10 rfl rfl ?_
  refine v_getR (pc := 11) fgX_59 dX_number_11 hf (fun a3 hf => ?_)
  refine v_iload_n (i := 1) (pc := 14) dX_number_14 rfl rfl ?_
  refine v_aald (pc := 15) (Or.inr (Or.inr rfl)) dX_number_15 hf (fun hf => ?_) (fun a4 hf => ?_)
  · refine v_astoreN (pc := 16) (ls' := [some (.ref a_0), some (.int i_1), some (.int i_2), some (.int i_3), some (.null), none]) dX_number_16 (by decide) rfl ?_
    refine v_aloadN (pc := 18) dX_number_18 rfl ?_
    refine v_ifnonnullN (pc := 20) dX_number_20 ?_
    refine v_aload_n (i := 0) (pc := 23) dX_number_23 rfl rfl ?_
    refine v_iconst (pc := 24) (1:Int32) dX_number_24 rfl ?_
    obtain ⟨u24, cu24, hf⟩ := bnd hf
    obtain ⟨h21, i22, e23, hf⟩ := bndp hf
    refine v_M1 (pc := 25) (As := [.int (1:Int32)]) (rest := []) lmX_72 cu24 (sX_found e23) ⟨Nat.le_of_ble_eq_true rfl, Nat.le_of_ble_eq_true rfl, Nat.le_of_ble_eq_true rfl, Nat.le_of_ble_eq_true rfl⟩ dX_number_25 rfl rfl (Nat.le_of_ble_eq_true rfl) ?_
    exact v_iret (pc := 28) dX_number_28 (by decide) (by decide) hf
  refine v_astore (pc := 16) (ls' := [some (.ref a_0), some (.int i_1), some (.int i_2), some (.int i_3), some (.ref a4), none]) dX_number_16 (by decide) rfl ?_
  refine v_aload (pc := 18) dX_number_18 rfl ?_
  refine v_ifnonnull (pc := 20) (tgt := 29) dX_number_20 rfl ?_
  refine v_aload (pc := 29) dX_number_29 rfl ?_
  refine v_getR (pc := 31) fgX_160 dX_number_31 hf (fun a5 hf => ?_)
  refine v_getI (pc := 34) fgX_164 dX_number_34 hf (fun i6 hf => ?_)
  refine v_istore (pc := 37) (ls' := [some (.ref a_0), some (.int i_1), some (.int i_2), some (.int i_3), some (.ref a4), some (.int i6)]) dX_number_37 (by decide) rfl ?_
  refine v_iload_n (i := 2) (pc := 39) dX_number_39 rfl rfl ?_
  refine v_iconst (pc := 40) (-1:Int32) dX_number_40 rfl ?_
  refine v_icmp_ne (pc := 41) (tgt := 51) dX_number_41 rfl hf (fun hf => ?_) (fun hf => ?_)
  · refine v_aload_n (i := 0) (pc := 44) dX_number_44 rfl rfl ?_
    refine v_iload (pc := 45) dX_number_45 rfl ?_
    obtain ⟨u20, cu20, hf⟩ := bnd hf
    obtain ⟨h17, i18, e19, hf⟩ := bndp hf
    refine v_M1 (pc := 47) (As := [.int i6]) (rest := []) lmX_80 cu20 (sX_well e19) ⟨Nat.le_of_ble_eq_true rfl, Nat.le_of_ble_eq_true rfl, Nat.le_of_ble_eq_true rfl, Nat.le_of_ble_eq_true rfl⟩ dX_number_47 rfl rfl (Nat.le_of_ble_eq_true rfl) ?_
    exact v_iret (pc := 50) dX_number_50 (by decide) (by decide) hf
  refine v_iload_n (i := 2) (pc := 51) dX_number_51 rfl rfl ?_
  refine v_if_lt (pc := 52) (tgt := 71) dX_number_52 rfl hf (fun hf => ?_) (fun hf => ?_)
  · refine v_ldc (pc := 71) dX_number_71 kiX_71 ?_
    exact v_iret (pc := 73) dX_number_73 (by decide) (by decide) hf
  refine v_iload_n (i := 2) (pc := 55) dX_number_55 rfl rfl ?_
  refine v_iload (pc := 56) dX_number_56 rfl ?_
  refine v_icmp_gt (pc := 58) (tgt := 71) dX_number_58 rfl hf (fun hf => ?_) (fun hf => ?_)
  · refine v_ldc (pc := 71) dX_number_71 kiX_71 ?_
    exact v_iret (pc := 73) dX_number_73 (by decide) (by decide) hf
  refine v_iload_n (i := 3) (pc := 61) dX_number_61 rfl rfl ?_
  refine v_if_lt (pc := 62) (tgt := 71) dX_number_62 rfl hf (fun hf => ?_) (fun hf => ?_)
  · refine v_ldc (pc := 71) dX_number_71 kiX_71 ?_
    exact v_iret (pc := 73) dX_number_73 (by decide) (by decide) hf
  refine v_iload_n (i := 3) (pc := 65) dX_number_65 rfl rfl ?_
  refine v_iload (pc := 66) dX_number_66 rfl ?_
  refine v_icmp_lt (pc := 68) (tgt := 74) dX_number_68 rfl hf (fun hf => ?_) (fun hf => ?_)
  rotate_left
  · refine v_ldc (pc := 71) dX_number_71 kiX_71 ?_
    exact v_iret (pc := 73) dX_number_73 (by decide) (by decide) hf
  refine v_aload_n (i := 0) (pc := 74) dX_number_74 rfl rfl ?_
  refine v_iload_n (i := 2) (pc := 75) dX_number_75 rfl rfl ?_
  refine v_iload (pc := 76) dX_number_76 rfl ?_
  refine v_icmp_ne (pc := 78) (tgt := 93) dX_number_78 rfl hf (fun hf => ?_) (fun hf => ?_)
  · refine v_aload (pc := 81) dX_number_81 rfl ?_
    refine v_getR (pc := 83) fgX_160 dX_number_83 hf (fun a12 hf => ?_)
    refine v_iload_n (i := 3) (pc := 86) dX_number_86 rfl rfl ?_
    obtain ⟨u16, cu16, hf⟩ := bnd hf
    obtain ⟨h13, j14, e15, hf⟩ := bndp hf
    refine v_M1 (pc := 87) (As := [.int i_3]) (rest := [.ref a_0]) lmX_187 cu16 (sSg_b e15) ⟨Nat.le_of_ble_eq_true rfl, Nat.le_of_ble_eq_true rfl, Nat.le_of_ble_eq_true rfl, Nat.le_of_ble_eq_true rfl⟩ dX_number_87 rfl rfl (Nat.le_of_ble_eq_true rfl) ?_
    refine v_goto (pc := 90) (tgt := 103) dX_number_90 rfl ?_
    refine v_wk (ls' := [none, none, none, none, none, none]) trivial ?_
    exact tX_number_103 n h13 j14 a_0 hf
  refine v_aload (pc := 93) dX_number_93 rfl ?_
  refine v_getR (pc := 95) fgX_160 dX_number_95 hf (fun a7 hf => ?_)
  refine v_iload_n (i := 2) (pc := 98) dX_number_98 rfl rfl ?_
  refine v_iload_n (i := 3) (pc := 99) dX_number_99 rfl rfl ?_
  obtain ⟨u11, cu11, hf⟩ := bnd hf
  obtain ⟨h8, j9, e10, hf⟩ := bndp hf
  refine v_M1 (pc := 100) (As := [.int i_2, .int i_3]) (rest := [.ref a_0]) lmX_191 cu11 (sSg_a e10) ⟨Nat.le_of_ble_eq_true rfl, Nat.le_of_ble_eq_true rfl, Nat.le_of_ble_eq_true rfl, Nat.le_of_ble_eq_true rfl⟩ dX_number_100 rfl rfl (Nat.le_of_ble_eq_true rfl) ?_
  refine v_wk (ls' := [none, none, none, none, none, none]) trivial ?_
  exact tX_number_103 n h8 j9 a_0 hf
abbrev rmX_kind : Room := { frames := 1, cells := 0, slots := 0, locals := 21 }
def fX_kind (n : Nat) (h : MH) (a_0 : Nat) (i_1 : Int32) : Option (MH × Int32) := (bnd2 (fX_noPlace n h i_1) fun h1 i2 => (if i2 = (0:Int32) then ((gfR h1 a_0 [11] 6).bind fun a3 => (rdRn h1 a3 4 i_1 ((chk h1 a_0 11).bind fun _ => (bnd2 (fX_found h1 a_0 (1:Int32)) fun h12 i13 => (some (h12, i13)))) fun a4 => (bnd2 (fDTa_told h1 a4) fun h5 i6 => ((chk h5 a_0 11).bind fun _ => (bnd2 (fX_well h5 a_0 i6) fun h7 i8 => (some (h7, i8))))))) else (some (h1, (-1000001:Int32)))))
set_option maxRecDepth 20000 in
set_option maxHeartbeats 4000000 in
theorem sX_kind {g : Gh} {h' : MH} {r' : Int32} {n : Nat} {h : MH} {a_0 : Nat} {i_1 : Int32} (hf : fX_kind n h a_0 i_1 = some (h', r')) : Sp g yX_kind cX_kind 3 (some .int) rmX_kind h [.ref a_0, .int i_1] h' (some (.int r')) := by
  refine sp_of (by decide) (Nat.le_of_ble_eq_true rfl) ?_
  change V g yX_kind cX_kind 3 (some .int) rmX_kind (ZQ g rmX_kind h' (some (.int r'))) 0 0 h 0 [some (.ref a_0), some (.int i_1), none] []
  unfold fX_kind at hf
  refine v_iload_n (i := 1) (pc := 0) dX_kind_0 rfl rfl ?_
  obtain ⟨h1, i2, e16, hf⟩ := bndp hf
  refine v_S1 (pc := 1) (As := [.int i_1]) (rest := []) lsX_143 (sX_noPlace e16) ⟨Nat.le_of_ble_eq_true rfl, Nat.le_of_ble_eq_true rfl, Nat.le_of_ble_eq_true rfl, Nat.le_of_ble_eq_true rfl⟩ dX_kind_1 rfl rfl (Nat.le_of_ble_eq_true rfl) ?_
  refine v_if_eq (pc := 4) (tgt := 10) dX_kind_4 rfl hf (fun hf => ?_) (fun hf => ?_)
  rotate_left
  · refine v_ldc (pc := 7) dX_kind_7 kiX_71 ?_
    exact v_iret (pc := 9) dX_kind_9 (by decide) (by decide) hf
  refine v_aload_n (i := 0) (pc := 10) dX_kind_10 rfl rfl ?_
  refine v_getR (pc := 11) fgX_59 dX_kind_11 hf (fun a3 hf => ?_)
  refine v_iload_n (i := 1) (pc := 14) dX_kind_14 rfl rfl ?_
  refine v_aald (pc := 15) (Or.inr (Or.inr rfl)) dX_kind_15 hf (fun hf => ?_) (fun a4 hf => ?_)
  · refine v_astoreN_n (i := 2) (pc := 16) (ls' := [some (.ref a_0), some (.int i_1), some (.null)]) dX_kind_16 rfl (by decide) rfl ?_
    refine v_aloadN_n (i := 2) (pc := 17) dX_kind_17 rfl rfl ?_
    refine v_ifnonnullN (pc := 18) dX_kind_18 ?_
    refine v_aload_n (i := 0) (pc := 21) dX_kind_21 rfl rfl ?_
    refine v_iconst (pc := 22) (1:Int32) dX_kind_22 rfl ?_
    obtain ⟨u15, cu15, hf⟩ := bnd hf
    obtain ⟨h12, i13, e14, hf⟩ := bndp hf
    refine v_M1 (pc := 23) (As := [.int (1:Int32)]) (rest := []) lmX_72 cu15 (sX_found e14) ⟨Nat.le_of_ble_eq_true rfl, Nat.le_of_ble_eq_true rfl, Nat.le_of_ble_eq_true rfl, Nat.le_of_ble_eq_true rfl⟩ dX_kind_23 rfl rfl (Nat.le_of_ble_eq_true rfl) ?_
    refine v_goto (pc := 26) (tgt := 37) dX_kind_26 rfl ?_
    exact v_iret (pc := 37) dX_kind_37 (by decide) (by decide) hf
  refine v_astore_n (i := 2) (pc := 16) (ls' := [some (.ref a_0), some (.int i_1), some (.ref a4)]) dX_kind_16 rfl (by decide) rfl ?_
  refine v_aload_n (i := 2) (pc := 17) dX_kind_17 rfl rfl ?_
  refine v_ifnonnull (pc := 18) (tgt := 29) dX_kind_18 rfl ?_
  refine v_aload_n (i := 0) (pc := 29) dX_kind_29 rfl rfl ?_
  refine v_aload_n (i := 2) (pc := 30) dX_kind_30 rfl rfl ?_
  obtain ⟨h5, i6, e11, hf⟩ := bndp hf
  refine v_D1 (pc := 31) (As := []) (rest := [.ref a_0]) lxX_195 (dDTa_told e11) (by decide) dX_kind_31 rfl rfl (Nat.le_of_ble_eq_true rfl) ?_
  obtain ⟨u10, cu10, hf⟩ := bnd hf
  obtain ⟨h7, i8, e9, hf⟩ := bndp hf
  refine v_M1 (pc := 34) (As := [.int i6]) (rest := []) lmX_80 cu10 (sX_well e9) ⟨Nat.le_of_ble_eq_true rfl, Nat.le_of_ble_eq_true rfl, Nat.le_of_ble_eq_true rfl, Nat.le_of_ble_eq_true rfl⟩ dX_kind_34 rfl rfl (Nat.le_of_ble_eq_true rfl) ?_
  exact v_iret (pc := 37) dX_kind_37 (by decide) (by decide) hf
abbrev rmX_noKind : Room := { frames := 0, cells := 0, slots := 0, locals := 0 }
def fX_noKind_9 (n : Nat) (h : MH) : Option (MH × Int32) := (retZ h (1:Int32))
set_option maxRecDepth 20000 in
set_option maxHeartbeats 4000000 in
theorem tX_noKind_9 {g : Gh} {h' : MH} {r' : Int32} (n : Nat) (h : MH) (hf : fX_noKind_9 n h = some (h', r')) : V g yX_noKind cX_noKind 1 (some .boolean) rmX_noKind (ZQ g rmX_noKind h' (some (.int r'))) 0 0 h 9 [none] [] := by
  unfold fX_noKind_9 at hf
  refine v_iconst (pc := 9) (1:Int32) dX_noKind_9 rfl ?_
  refine v_goto (pc := 10) (tgt := 14) dX_noKind_10 rfl ?_
  exact v_zret (pc := 14) dX_noKind_14 (by decide) (by decide) hf
def fX_noKind (n : Nat) (h : MH) (i_0 : Int32) : Option (MH × Int32) := (if i_0 < (0:Int32) then (fX_noKind_9 n h) else (if i_0 ≤ (3:Int32) then (retZ h (0:Int32)) else (fX_noKind_9 n h)))
set_option maxRecDepth 20000 in
set_option maxHeartbeats 4000000 in
theorem sX_noKind {g : Gh} {h' : MH} {r' : Int32} {n : Nat} {h : MH} {i_0 : Int32} (hf : fX_noKind n h i_0 = some (h', r')) : Sp g yX_noKind cX_noKind 1 (some .boolean) rmX_noKind h [.int i_0] h' (some (.int r')) := by
  refine sp_of (by decide) (Nat.le_of_ble_eq_true rfl) ?_
  change V g yX_noKind cX_noKind 1 (some .boolean) rmX_noKind (ZQ g rmX_noKind h' (some (.int r'))) 0 0 h 0 [some (.int i_0)] []
  unfold fX_noKind at hf
  refine v_iload_n (i := 0) (pc := 0) dX_noKind_0 rfl rfl ?_
  refine v_if_lt (pc := 1) (tgt := 9) dX_noKind_1 rfl hf (fun hf => ?_) (fun hf => ?_)
  · refine v_wk (ls' := [none]) trivial ?_
    exact tX_noKind_9 n h hf
  refine v_iload_n (i := 0) (pc := 4) dX_noKind_4 rfl rfl ?_
  refine v_iconst (pc := 5) (3:Int32) dX_noKind_5 rfl ?_
  refine v_icmp_le (pc := 6) (tgt := 13) dX_noKind_6 rfl hf (fun hf => ?_) (fun hf => ?_)
  · refine v_iconst (pc := 13) (0:Int32) dX_noKind_13 rfl ?_
    exact v_zret (pc := 14) dX_noKind_14 (by decide) (by decide) hf
  refine v_wk (ls' := [none]) trivial ?_
  exact tX_noKind_9 n h hf
abbrev rmX_belongs : Room := { frames := 0, cells := 0, slots := 0, locals := 0 }
def fX_belongs (h : MH) (q0 : Option Nat) (i_1 : Int32) : Option (MH × Int32) := match q0 with | some q0 => (if i_1 = (0:Int32) then (retZ h (1:Int32)) else (if i_1 = (1:Int32) then ((iof h q0 2).bind fun i1 => (retZ h i1)) else (if i_1 = (2:Int32) then ((iof h q0 4).bind fun i2 => (retZ h i2)) else (if i_1 = (3:Int32) then ((iof h q0 1).bind fun i3 => (retZ h i3)) else (retZ h (0:Int32)))))) | none => (if i_1 = (0:Int32) then (retZ h (0:Int32)) else (if i_1 = (1:Int32) then (retZ h (0:Int32)) else (if i_1 = (2:Int32) then (retZ h (0:Int32)) else (if i_1 = (3:Int32) then (retZ h (0:Int32)) else (retZ h (0:Int32))))))
set_option maxRecDepth 20000 in
set_option maxHeartbeats 4000000 in
theorem sX_belongs {g : Gh} {h' : MH} {r' : Int32} {h : MH} {q0 : Option Nat} {i_1 : Int32} (hf : fX_belongs h q0 i_1 = some (h', r')) : Sp g yX_belongs cX_belongs 2 (some .boolean) rmX_belongs h [va_rf q0, .int i_1] h' (some (.int r')) := by
  refine sp_of (by decide) (by cases q0 <;> exact Nat.le_of_ble_eq_true rfl) ?_
  unfold fX_belongs at hf
  cases q0 with
  | none =>
    replace hf : (if i_1 = (0:Int32) then (retZ h (0:Int32)) else (if i_1 = (1:Int32) then (retZ h (0:Int32)) else (if i_1 = (2:Int32) then (retZ h (0:Int32)) else (if i_1 = (3:Int32) then (retZ h (0:Int32)) else (retZ h (0:Int32)))))) = some (h', r') := hf
    refine v_wk (ls' := [some (.null), some (.int i_1)]) ⟨rfl, rfl, trivial⟩ ?_
    refine v_iload_n (i := 1) (pc := 0) dX_belongs_0 rfl rfl ?_
    by_cases e1 : i_1 = (0:Int32)
    · replace hf := if_t hf e1
      refine v_tswI (pc := 1) (tgt := 32) (off := 31) dX_belongs_1 (by rw [e1]; decide) (by rw [e1]; decide) (by rw [e1]; decide) rfl ?_
      refine v_aloadN_n (i := 0) (pc := 32) dX_belongs_32 rfl rfl ?_
      refine v_ifnullN (pc := 33) (tgt := 40) dX_belongs_33 rfl ?_
      refine v_iconst (pc := 40) (0:Int32) dX_belongs_40 rfl ?_
      exact v_zret (pc := 41) dX_belongs_41 (by decide) (by decide) hf
    replace hf := if_f hf e1
    by_cases e2 : i_1 = (1:Int32)
    · replace hf := if_t hf e2
      refine v_tswI (pc := 1) (tgt := 42) (off := 41) dX_belongs_1 (by rw [e2]; decide) (by rw [e2]; decide) (by rw [e2]; decide) rfl ?_
      refine v_aloadN_n (i := 0) (pc := 42) dX_belongs_42 rfl rfl ?_
      refine v_instN (pc := 43) dX_belongs_43 ?_
      exact v_zret (pc := 46) dX_belongs_46 (by decide) (by decide) hf
    replace hf := if_f hf e2
    by_cases e3 : i_1 = (2:Int32)
    · replace hf := if_t hf e3
      refine v_tswI (pc := 1) (tgt := 47) (off := 46) dX_belongs_1 (by rw [e3]; decide) (by rw [e3]; decide) (by rw [e3]; decide) rfl ?_
      refine v_aloadN_n (i := 0) (pc := 47) dX_belongs_47 rfl rfl ?_
      refine v_instN (pc := 48) dX_belongs_48 ?_
      exact v_zret (pc := 51) dX_belongs_51 (by decide) (by decide) hf
    replace hf := if_f hf e3
    by_cases e4 : i_1 = (3:Int32)
    · replace hf := if_t hf e4
      refine v_tswI (pc := 1) (tgt := 52) (off := 51) dX_belongs_1 (by rw [e4]; decide) (by rw [e4]; decide) (by rw [e4]; decide) rfl ?_
      refine v_aloadN_n (i := 0) (pc := 52) dX_belongs_52 rfl rfl ?_
      refine v_instN (pc := 53) dX_belongs_53 ?_
      exact v_zret (pc := 56) dX_belongs_56 (by decide) (by decide) hf
    replace hf := if_f hf e4
    refine v_tswO (pc := 1) (tgt := 57) dX_belongs_1 (by have := lv_neT e1 (a := 0) (by decide); have := lv_neT e2 (a := 1) (by decide); have := lv_neT e3 (a := 2) (by decide); have := lv_neT e4 (a := 3) (by decide); omega) rfl ?_
    refine v_iconst (pc := 57) (0:Int32) dX_belongs_57 rfl ?_
    exact v_zret (pc := 58) dX_belongs_58 (by decide) (by decide) hf
  | some q0 =>
    replace hf : (if i_1 = (0:Int32) then (retZ h (1:Int32)) else (if i_1 = (1:Int32) then ((iof h q0 2).bind fun i1 => (retZ h i1)) else (if i_1 = (2:Int32) then ((iof h q0 4).bind fun i2 => (retZ h i2)) else (if i_1 = (3:Int32) then ((iof h q0 1).bind fun i3 => (retZ h i3)) else (retZ h (0:Int32)))))) = some (h', r') := hf
    refine v_wk (ls' := [some (.ref q0), some (.int i_1)]) ⟨rfl, rfl, trivial⟩ ?_
    refine v_iload_n (i := 1) (pc := 0) dX_belongs_0 rfl rfl ?_
    by_cases e4 : i_1 = (0:Int32)
    · replace hf := if_t hf e4
      refine v_tswI (pc := 1) (tgt := 32) (off := 31) dX_belongs_1 (by rw [e4]; decide) (by rw [e4]; decide) (by rw [e4]; decide) rfl ?_
      refine v_aload_n (i := 0) (pc := 32) dX_belongs_32 rfl rfl ?_
      refine v_ifnull (pc := 33) dX_belongs_33 ?_
      refine v_iconst (pc := 36) (1:Int32) dX_belongs_36 rfl ?_
      refine v_goto (pc := 37) (tgt := 41) dX_belongs_37 rfl ?_
      exact v_zret (pc := 41) dX_belongs_41 (by decide) (by decide) hf
    replace hf := if_f hf e4
    by_cases e5 : i_1 = (1:Int32)
    · replace hf := if_t hf e5
      refine v_tswI (pc := 1) (tgt := 42) (off := 41) dX_belongs_1 (by rw [e5]; decide) (by rw [e5]; decide) (by rw [e5]; decide) rfl ?_
      refine v_aload_n (i := 0) (pc := 42) dX_belongs_42 rfl rfl ?_
      refine v_inst2 (pc := 43) (Or.inr (Or.inl rfl)) dX_belongs_43 clX_293 hf (fun i1 hf => ?_)
      exact v_zret (pc := 46) dX_belongs_46 (by decide) (by decide) hf
    replace hf := if_f hf e5
    by_cases e6 : i_1 = (2:Int32)
    · replace hf := if_t hf e6
      refine v_tswI (pc := 1) (tgt := 47) (off := 46) dX_belongs_1 (by rw [e6]; decide) (by rw [e6]; decide) (by rw [e6]; decide) rfl ?_
      refine v_aload_n (i := 0) (pc := 47) dX_belongs_47 rfl rfl ?_
      refine v_inst2 (pc := 48) (Or.inr (Or.inr rfl)) dX_belongs_48 clX_281 hf (fun i2 hf => ?_)
      exact v_zret (pc := 51) dX_belongs_51 (by decide) (by decide) hf
    replace hf := if_f hf e6
    by_cases e7 : i_1 = (3:Int32)
    · replace hf := if_t hf e7
      refine v_tswI (pc := 1) (tgt := 52) (off := 51) dX_belongs_1 (by rw [e7]; decide) (by rw [e7]; decide) (by rw [e7]; decide) rfl ?_
      refine v_aload_n (i := 0) (pc := 52) dX_belongs_52 rfl rfl ?_
      refine v_inst2 (pc := 53) (Or.inl rfl) dX_belongs_53 clX_290 hf (fun i3 hf => ?_)
      exact v_zret (pc := 56) dX_belongs_56 (by decide) (by decide) hf
    replace hf := if_f hf e7
    refine v_tswO (pc := 1) (tgt := 57) dX_belongs_1 (by have := lv_neT e4 (a := 0) (by decide); have := lv_neT e5 (a := 1) (by decide); have := lv_neT e6 (a := 2) (by decide); have := lv_neT e7 (a := 3) (by decide); omega) rfl ?_
    refine v_iconst (pc := 57) (0:Int32) dX_belongs_57 rfl ?_
    exact v_zret (pc := 58) dX_belongs_58 (by decide) (by decide) hf
abbrev rmX_is : Room := { frames := 1, cells := 0, slots := 0, locals := 21 }
def fX_is (n : Nat) (h : MH) (a_0 : Nat) (i_1 : Int32) (i_2 : Int32) : Option (MH × Int32) := (bnd2 (fX_noPlace n h i_1) fun h1 i2 => (if i2 = (0:Int32) then (bnd2 (fX_noKind n h1 i_2) fun h3 i4 => (if i4 = (0:Int32) then ((gfR h3 a_0 [11] 6).bind fun a5 => (rdRn h3 a5 4 i_1 (bnd2 (fX_belongs h3 none i_2) fun h10 i11 => (if i11 = (0:Int32) then (some (h10, (0:Int32))) else (some (h10, (1:Int32))))) fun a6 => (bnd2 (fX_belongs h3 (some a6) i_2) fun h7 i8 => (if i8 = (0:Int32) then (some (h7, (0:Int32))) else (some (h7, (1:Int32))))))) else (some (h3, (-1000001:Int32))))) else (some (h1, (-1000001:Int32)))))
set_option maxRecDepth 20000 in
set_option maxHeartbeats 4000000 in
theorem sX_is {g : Gh} {h' : MH} {r' : Int32} {n : Nat} {h : MH} {a_0 : Nat} {i_1 : Int32} {i_2 : Int32} (hf : fX_is n h a_0 i_1 i_2 = some (h', r')) : Sp g yX_is cX_is 3 (some .int) rmX_is h [.ref a_0, .int i_1, .int i_2] h' (some (.int r')) := by
  refine sp_of (by decide) (Nat.le_of_ble_eq_true rfl) ?_
  change V g yX_is cX_is 3 (some .int) rmX_is (ZQ g rmX_is h' (some (.int r'))) 0 0 h 0 [some (.ref a_0), some (.int i_1), some (.int i_2)] []
  unfold fX_is at hf
  refine v_iload_n (i := 1) (pc := 0) dX_is_0 rfl rfl ?_
  obtain ⟨h1, i2, e14, hf⟩ := bndp hf
  refine v_S1 (pc := 1) (As := [.int i_1]) (rest := []) lsX_143 (sX_noPlace e14) ⟨Nat.le_of_ble_eq_true rfl, Nat.le_of_ble_eq_true rfl, Nat.le_of_ble_eq_true rfl, Nat.le_of_ble_eq_true rfl⟩ dX_is_1 rfl rfl (Nat.le_of_ble_eq_true rfl) ?_
  refine v_if_ne (pc := 4) (tgt := 14) dX_is_4 rfl hf (fun hf => ?_) (fun hf => ?_)
  rotate_left
  · refine v_ldc (pc := 14) dX_is_14 kiX_71 ?_
    exact v_iret (pc := 16) dX_is_16 (by decide) (by decide) hf
  refine v_iload_n (i := 2) (pc := 7) dX_is_7 rfl rfl ?_
  obtain ⟨h3, i4, e13, hf⟩ := bndp hf
  refine v_S1 (pc := 8) (As := [.int i_2]) (rest := []) lsX_199 (sX_noKind e13) ⟨Nat.le_of_ble_eq_true rfl, Nat.le_of_ble_eq_true rfl, Nat.le_of_ble_eq_true rfl, Nat.le_of_ble_eq_true rfl⟩ dX_is_8 rfl rfl (Nat.le_of_ble_eq_true rfl) ?_
  refine v_if_eq (pc := 11) (tgt := 17) dX_is_11 rfl hf (fun hf => ?_) (fun hf => ?_)
  rotate_left
  · refine v_ldc (pc := 14) dX_is_14 kiX_71 ?_
    exact v_iret (pc := 16) dX_is_16 (by decide) (by decide) hf
  refine v_aload_n (i := 0) (pc := 17) dX_is_17 rfl rfl ?_
  refine v_getR (pc := 18) fgX_59 dX_is_18 hf (fun a5 hf => ?_)
  refine v_iload_n (i := 1) (pc := 21) dX_is_21 rfl rfl ?_
  refine v_aald (pc := 22) (Or.inr (Or.inr rfl)) dX_is_22 hf (fun hf => ?_) (fun a6 hf => ?_)
  · refine v_iload_n (i := 2) (pc := 23) dX_is_23 rfl rfl ?_
    obtain ⟨h10, i11, e12, hf⟩ := bndp hf
    refine v_S1 (pc := 24) (As := [.null, .int i_2]) (rest := []) lsX_202 (sX_belongs e12) ⟨Nat.le_of_ble_eq_true rfl, Nat.le_of_ble_eq_true rfl, Nat.le_of_ble_eq_true rfl, Nat.le_of_ble_eq_true rfl⟩ dX_is_24 rfl rfl (Nat.le_of_ble_eq_true rfl) ?_
    refine v_if_eq (pc := 27) (tgt := 34) dX_is_27 rfl hf (fun hf => ?_) (fun hf => ?_)
    · refine v_iconst (pc := 34) (0:Int32) dX_is_34 rfl ?_
      exact v_iret (pc := 35) dX_is_35 (by decide) (by decide) hf
    refine v_iconst (pc := 30) (1:Int32) dX_is_30 rfl ?_
    refine v_goto (pc := 31) (tgt := 35) dX_is_31 rfl ?_
    exact v_iret (pc := 35) dX_is_35 (by decide) (by decide) hf
  refine v_iload_n (i := 2) (pc := 23) dX_is_23 rfl rfl ?_
  obtain ⟨h7, i8, e9, hf⟩ := bndp hf
  refine v_S1 (pc := 24) (As := [.ref a6, .int i_2]) (rest := []) lsX_202 (sX_belongs e9) ⟨Nat.le_of_ble_eq_true rfl, Nat.le_of_ble_eq_true rfl, Nat.le_of_ble_eq_true rfl, Nat.le_of_ble_eq_true rfl⟩ dX_is_24 rfl rfl (Nat.le_of_ble_eq_true rfl) ?_
  refine v_if_eq (pc := 27) (tgt := 34) dX_is_27 rfl hf (fun hf => ?_) (fun hf => ?_)
  · refine v_iconst (pc := 34) (0:Int32) dX_is_34 rfl ?_
    exact v_iret (pc := 35) dX_is_35 (by decide) (by decide) hf
  refine v_iconst (pc := 30) (1:Int32) dX_is_30 rfl ?_
  refine v_goto (pc := 31) (tgt := 35) dX_is_31 rfl ?_
  exact v_iret (pc := 35) dX_is_35 (by decide) (by decide) hf
abbrev rmX_as : Room := { frames := 1, cells := 0, slots := 0, locals := 21 }
def fX_as (n : Nat) (h : MH) (a_0 : Nat) (i_1 : Int32) (i_2 : Int32) : Option (MH × Int32) := (bnd2 (fX_noPlace n h i_1) fun h1 i2 => (if i2 = (0:Int32) then (bnd2 (fX_noKind n h1 i_2) fun h3 i4 => (if i4 = (0:Int32) then ((gfR h3 a_0 [11] 6).bind fun a5 => (rdRn h3 a5 4 i_1 ((chk h3 a_0 11).bind fun _ => (bnd2 (fX_found h3 a_0 (1:Int32)) fun h20 i21 => (some (h20, i21)))) fun a6 => (bnd2 (fX_belongs h3 (some a6) i_2) fun h7 i8 => (if i8 = (0:Int32) then ((chk h7 a_0 11).bind fun _ => (bnd2 (fX_found h7 a_0 (3:Int32)) fun h9 i10 => (some (h9, i10)))) else ((gfR h7 a6 [8, 1, 2, 4] 0).bind fun a13 => ((gfI h7 a13 [7] 0).bind fun i14 => ((chk h7 a_0 11).bind fun _ => (bnd2 (fX_well h7 a_0 i14) fun h15 i16 => (some (h15, i16)))))))))) else (some (h3, (-1000001:Int32))))) else (some (h1, (-1000001:Int32)))))
set_option maxRecDepth 20000 in
set_option maxHeartbeats 4000000 in
theorem sX_as {g : Gh} {h' : MH} {r' : Int32} {n : Nat} {h : MH} {a_0 : Nat} {i_1 : Int32} {i_2 : Int32} (hf : fX_as n h a_0 i_1 i_2 = some (h', r')) : Sp g yX_as cX_as 4 (some .int) rmX_as h [.ref a_0, .int i_1, .int i_2] h' (some (.int r')) := by
  refine sp_of (by decide) (Nat.le_of_ble_eq_true rfl) ?_
  change V g yX_as cX_as 4 (some .int) rmX_as (ZQ g rmX_as h' (some (.int r'))) 0 0 h 0 [some (.ref a_0), some (.int i_1), some (.int i_2), none] []
  unfold fX_as at hf
  refine v_iload_n (i := 1) (pc := 0) dX_as_0 rfl rfl ?_
  obtain ⟨h1, i2, e25, hf⟩ := bndp hf
  refine v_S1 (pc := 1) (As := [.int i_1]) (rest := []) lsX_143 (sX_noPlace e25) ⟨Nat.le_of_ble_eq_true rfl, Nat.le_of_ble_eq_true rfl, Nat.le_of_ble_eq_true rfl, Nat.le_of_ble_eq_true rfl⟩ dX_as_1 rfl rfl (Nat.le_of_ble_eq_true rfl) ?_
  refine v_if_ne (pc := 4) (tgt := 14) dX_as_4 rfl hf (fun hf => ?_) (fun hf => ?_)
  rotate_left
  · refine v_ldc (pc := 14) dX_as_14 kiX_71 ?_
    exact v_iret (pc := 16) dX_as_16 (by decide) (by decide) hf
  refine v_iload_n (i := 2) (pc := 7) dX_as_7 rfl rfl ?_
  obtain ⟨h3, i4, e24, hf⟩ := bndp hf
  refine v_S1 (pc := 8) (As := [.int i_2]) (rest := []) lsX_199 (sX_noKind e24) ⟨Nat.le_of_ble_eq_true rfl, Nat.le_of_ble_eq_true rfl, Nat.le_of_ble_eq_true rfl, Nat.le_of_ble_eq_true rfl⟩ dX_as_8 rfl rfl (Nat.le_of_ble_eq_true rfl) ?_
  refine v_if_eq (pc := 11) (tgt := 17) dX_as_11 rfl hf (fun hf => ?_) (fun hf => ?_)
  rotate_left
  · refine v_ldc (pc := 14) dX_as_14 kiX_71 ?_
    exact v_iret (pc := 16) dX_as_16 (by decide) (by decide) hf
  refine v_aload_n (i := 0) (pc := 17) dX_as_17 rfl rfl ?_
  refine v_getR (pc := 18) fgX_59 dX_as_18 hf (fun a5 hf => ?_)
  refine v_iload_n (i := 1) (pc := 21) dX_as_21 rfl rfl ?_
  refine v_aald (pc := 22) (Or.inr (Or.inr rfl)) dX_as_22 hf (fun hf => ?_) (fun a6 hf => ?_)
  · refine v_astoreN_n (i := 3) (pc := 23) (ls' := [some (.ref a_0), some (.int i_1), some (.int i_2), some (.null)]) dX_as_23 rfl (by decide) rfl ?_
    refine v_aloadN_n (i := 3) (pc := 24) dX_as_24 rfl rfl ?_
    refine v_ifnonnullN (pc := 25) dX_as_25 ?_
    refine v_aload_n (i := 0) (pc := 28) dX_as_28 rfl rfl ?_
    refine v_iconst (pc := 29) (1:Int32) dX_as_29 rfl ?_
    obtain ⟨u23, cu23, hf⟩ := bnd hf
    obtain ⟨h20, i21, e22, hf⟩ := bndp hf
    refine v_M1 (pc := 30) (As := [.int (1:Int32)]) (rest := []) lmX_72 cu23 (sX_found e22) ⟨Nat.le_of_ble_eq_true rfl, Nat.le_of_ble_eq_true rfl, Nat.le_of_ble_eq_true rfl, Nat.le_of_ble_eq_true rfl⟩ dX_as_30 rfl rfl (Nat.le_of_ble_eq_true rfl) ?_
    exact v_iret (pc := 33) dX_as_33 (by decide) (by decide) hf
  refine v_astore_n (i := 3) (pc := 23) (ls' := [some (.ref a_0), some (.int i_1), some (.int i_2), some (.ref a6)]) dX_as_23 rfl (by decide) rfl ?_
  refine v_aload_n (i := 3) (pc := 24) dX_as_24 rfl rfl ?_
  refine v_ifnonnull (pc := 25) (tgt := 34) dX_as_25 rfl ?_
  refine v_aload_n (i := 3) (pc := 34) dX_as_34 rfl rfl ?_
  refine v_iload_n (i := 2) (pc := 35) dX_as_35 rfl rfl ?_
  obtain ⟨h7, i8, e19, hf⟩ := bndp hf
  refine v_S1 (pc := 36) (As := [.ref a6, .int i_2]) (rest := []) lsX_202 (sX_belongs e19) ⟨Nat.le_of_ble_eq_true rfl, Nat.le_of_ble_eq_true rfl, Nat.le_of_ble_eq_true rfl, Nat.le_of_ble_eq_true rfl⟩ dX_as_36 rfl rfl (Nat.le_of_ble_eq_true rfl) ?_
  refine v_if_eq (pc := 39) (tgt := 56) dX_as_39 rfl hf (fun hf => ?_) (fun hf => ?_)
  · refine v_aload_n (i := 0) (pc := 56) dX_as_56 rfl rfl ?_
    refine v_iconst (pc := 57) (3:Int32) dX_as_57 rfl ?_
    obtain ⟨u12, cu12, hf⟩ := bnd hf
    obtain ⟨h9, i10, e11, hf⟩ := bndp hf
    refine v_M1 (pc := 58) (As := [.int (3:Int32)]) (rest := []) lmX_72 cu12 (sX_found e11) ⟨Nat.le_of_ble_eq_true rfl, Nat.le_of_ble_eq_true rfl, Nat.le_of_ble_eq_true rfl, Nat.le_of_ble_eq_true rfl⟩ dX_as_58 rfl rfl (Nat.le_of_ble_eq_true rfl) ?_
    exact v_iret (pc := 61) dX_as_61 (by decide) (by decide) hf
  refine v_aload_n (i := 0) (pc := 42) dX_as_42 rfl rfl ?_
  refine v_aload_n (i := 3) (pc := 43) dX_as_43 rfl rfl ?_
  refine v_getR (pc := 44) fgX_160 dX_as_44 hf (fun a13 hf => ?_)
  refine v_getI (pc := 47) fgX_164 dX_as_47 hf (fun i14 hf => ?_)
  obtain ⟨u18, cu18, hf⟩ := bnd hf
  obtain ⟨h15, i16, e17, hf⟩ := bndp hf
  refine v_M1 (pc := 50) (As := [.int i14]) (rest := []) lmX_80 cu18 (sX_well e17) ⟨Nat.le_of_ble_eq_true rfl, Nat.le_of_ble_eq_true rfl, Nat.le_of_ble_eq_true rfl, Nat.le_of_ble_eq_true rfl⟩ dX_as_50 rfl rfl (Nat.le_of_ble_eq_true rfl) ?_
  refine v_goto (pc := 53) (tgt := 61) dX_as_53 rfl ?_
  exact v_iret (pc := 61) dX_as_61 (by decide) (by decide) hf
abbrev rmTr_begin : Room := { frames := 0, cells := 0, slots := 0, locals := 0 }
def fTr_begin (h : MH) (a_0 : Nat) (i_1 : Int32) : Option MH := ((gfI h a_0 [9] 1).bind fun i1 => (if (16:Int32) ≤ i1 then (some h) else ((gfR h a_0 [9] 0).bind fun a2 => ((gfI h a_0 [9] 1).bind fun i3 => ((wrI h a2 i3 i_1).bind fun h4 => ((gfI h4 a_0 [9] 1).bind fun i5 => ((pf h4 a_0 [9] 1 (.int (i5 + (1:Int32)))).bind fun h6 => (some h6))))))))
set_option maxRecDepth 20000 in
set_option maxHeartbeats 4000000 in
theorem sTr_begin {g : Gh} {h' : MH} {h : MH} {a_0 : Nat} {i_1 : Int32} (hf : fTr_begin h a_0 i_1 = some h') : Sp g yTr_begin cTr_begin 2 none rmTr_begin h [.ref a_0, .int i_1] h' none := by
  refine sp_of (by decide) (Nat.le_of_ble_eq_true rfl) ?_
  change V g yTr_begin cTr_begin 2 none rmTr_begin (ZQ g rmTr_begin h' none) 0 0 h 0 [some (.ref a_0), some (.int i_1)] []
  unfold fTr_begin at hf
  refine v_aload_n (i := 0) (pc := 0) dTr_begin_0 rfl rfl ?_
  refine v_getI (pc := 1) fgTr_13 dTr_begin_1 hf (fun i1 hf => ?_)
  refine v_bipush (pc := 4) (16:Int32) dTr_begin_4 rfl ?_
  refine v_icmp_ge (pc := 6) (tgt := 29) dTr_begin_6 rfl hf (fun hf => ?_) (fun hf => ?_)
  · exact v_vret (pc := 29) dTr_begin_29 (by decide) (by decide) hf
  refine v_aload_n (i := 0) (pc := 9) dTr_begin_9 rfl rfl ?_
  refine v_getR (pc := 10) fgTr_9 dTr_begin_10 hf (fun a2 hf => ?_)
  refine v_aload_n (i := 0) (pc := 13) dTr_begin_13 rfl rfl ?_
  refine v_getI (pc := 14) fgTr_13 dTr_begin_14 hf (fun i3 hf => ?_)
  refine v_iload_n (i := 1) (pc := 17) dTr_begin_17 rfl rfl ?_
  refine v_iast (pc := 18) dTr_begin_18 hf (fun h4 hf => ?_)
  refine v_aload_n (i := 0) (pc := 19) dTr_begin_19 rfl rfl ?_
  refine v_dup (pc := 20) dTr_begin_20 rfl ?_
  refine v_getI (pc := 21) fgTr_13 dTr_begin_21 hf (fun i5 hf => ?_)
  refine v_iconst (pc := 24) (1:Int32) dTr_begin_24 rfl ?_
  refine v_iadd (pc := 25) dTr_begin_25 ?_
  refine v_put (pc := 26) fpTr_13 (fun _ => ⟨rfl, rfl⟩) dTr_begin_26 hf (fun h6 hf => ?_)
  exact v_vret (pc := 29) dTr_begin_29 (by decide) (by decide) hf
abbrev rmTa_size : Room := { frames := 1, cells := 0, slots := 0, locals := 21 }
def fTa_size (h : MH) (a_0 : Nat) (a_1 : Nat) : Option (MH × Int32) := ((chk h a_1 9).bind fun _ => ((fTr_begin h a_1 (10:Int32)).bind fun h1 => ((gfR h1 a_0 [8, 1, 2, 4] 0).bind fun a2 => ((gfI h1 a2 [7] 0).bind fun i3 => (some (h1, i3))))))
set_option maxRecDepth 20000 in
set_option maxHeartbeats 4000000 in
theorem sTa_size {g : Gh} {h' : MH} {r' : Int32} {h : MH} {a_0 : Nat} {a_1 : Nat} (hf : fTa_size h a_0 a_1 = some (h', r')) : Sp g yTa_size cTa_size 2 (some .int) rmTa_size h [.ref a_0, .ref a_1] h' (some (.int r')) := by
  refine sp_of (by decide) (Nat.le_of_ble_eq_true rfl) ?_
  change V g yTa_size cTa_size 2 (some .int) rmTa_size (ZQ g rmTa_size h' (some (.int r'))) 0 0 h 0 [some (.ref a_0), some (.ref a_1)] []
  unfold fTa_size at hf
  refine v_aload_n (i := 1) (pc := 0) dTa_size_0 rfl rfl ?_
  refine v_bipush (pc := 1) (10:Int32) dTa_size_1 rfl ?_
  obtain ⟨u5, cu5, hf⟩ := bnd hf
  obtain ⟨h1, e4, hf⟩ := bnd hf
  refine v_M0 (pc := 3) (As := [.int (10:Int32)]) (rest := []) lmTa_26 cu5 (sTr_begin e4) ⟨Nat.le_of_ble_eq_true rfl, Nat.le_of_ble_eq_true rfl, Nat.le_of_ble_eq_true rfl, Nat.le_of_ble_eq_true rfl⟩ dTa_size_3 rfl rfl (Nat.le_of_ble_eq_true rfl) ?_
  refine v_aload_n (i := 0) (pc := 6) dTa_size_6 rfl rfl ?_
  refine v_getR (pc := 7) fgTa_9 dTa_size_7 hf (fun a2 hf => ?_)
  refine v_getI (pc := 10) fgTa_32 dTa_size_10 hf (fun i3 hf => ?_)
  exact v_iret (pc := 13) dTa_size_13 (by decide) (by decide) hf
abbrev rmLo_size : Room := { frames := 2, cells := 0, slots := 0, locals := 42 }
def fLo_size (h : MH) (a_0 : Nat) (a_1 : Nat) : Option (MH × Int32) := ((chk h a_1 9).bind fun _ => ((fTr_begin h a_1 (11:Int32)).bind fun h1 => ((okT h1 a_0).bind fun _ => (bnd2 (fTa_size h1 a_0 a_1) fun h2 i3 => (some (h2, (i3 + (100:Int32))))))))
set_option maxRecDepth 20000 in
set_option maxHeartbeats 4000000 in
theorem sLo_size {g : Gh} {h' : MH} {r' : Int32} {h : MH} {a_0 : Nat} {a_1 : Nat} (hf : fLo_size h a_0 a_1 = some (h', r')) : Sp g yLo_size cLo_size 2 (some .int) rmLo_size h [.ref a_0, .ref a_1] h' (some (.int r')) := by
  refine sp_of (by decide) (Nat.le_of_ble_eq_true rfl) ?_
  change V g yLo_size cLo_size 2 (some .int) rmLo_size (ZQ g rmLo_size h' (some (.int r'))) 0 0 h 0 [some (.ref a_0), some (.ref a_1)] []
  unfold fLo_size at hf
  refine v_aload_n (i := 1) (pc := 0) dLo_size_0 rfl rfl ?_
  refine v_bipush (pc := 1) (11:Int32) dLo_size_1 rfl ?_
  obtain ⟨u7, cu7, hf⟩ := bnd hf
  obtain ⟨h1, e6, hf⟩ := bnd hf
  refine v_M0 (pc := 3) (As := [.int (11:Int32)]) (rest := []) lmLo_9 cu7 (sTr_begin e6) ⟨Nat.le_of_ble_eq_true rfl, Nat.le_of_ble_eq_true rfl, Nat.le_of_ble_eq_true rfl, Nat.le_of_ble_eq_true rfl⟩ dLo_size_3 rfl rfl (Nat.le_of_ble_eq_true rfl) ?_
  refine v_aload_n (i := 0) (pc := 6) dLo_size_6 rfl rfl ?_
  refine v_aload_n (i := 1) (pc := 7) dLo_size_7 rfl rfl ?_
  obtain ⟨u5, cu5, hf⟩ := bnd hf
  obtain ⟨h2, i3, e4, hf⟩ := bndp hf
  refine v_U1 (pc := 8) (As := [.ref a_1]) (rest := []) luLo_15 cu5 (sTa_size e4) ⟨Nat.le_of_ble_eq_true rfl, Nat.le_of_ble_eq_true rfl, Nat.le_of_ble_eq_true rfl, Nat.le_of_ble_eq_true rfl⟩ dLo_size_8 rfl rfl (Nat.le_of_ble_eq_true rfl) ?_
  refine v_bipush (pc := 11) (100:Int32) dLo_size_11 rfl ?_
  refine v_iadd (pc := 13) dLo_size_13 ?_
  exact v_iret (pc := 14) dLo_size_14 (by decide) (by decide) hf
abbrev rmPl_size : Room := { frames := 3, cells := 0, slots := 0, locals := 63 }
def fPl_size (h : MH) (a_0 : Nat) (a_1 : Nat) : Option (MH × Int32) := ((chk h a_1 9).bind fun _ => ((fTr_begin h a_1 (12:Int32)).bind fun h1 => ((okT h1 a_0).bind fun _ => (bnd2 (fLo_size h1 a_0 a_1) fun h2 i3 => (some (h2, ((2:Int32) * i3)))))))
set_option maxRecDepth 20000 in
set_option maxHeartbeats 4000000 in
theorem sPl_size {g : Gh} {h' : MH} {r' : Int32} {h : MH} {a_0 : Nat} {a_1 : Nat} (hf : fPl_size h a_0 a_1 = some (h', r')) : Sp g yPl_size cPl_size 2 (some .int) rmPl_size h [.ref a_0, .ref a_1] h' (some (.int r')) := by
  refine sp_of (by decide) (Nat.le_of_ble_eq_true rfl) ?_
  change V g yPl_size cPl_size 2 (some .int) rmPl_size (ZQ g rmPl_size h' (some (.int r'))) 0 0 h 0 [some (.ref a_0), some (.ref a_1)] []
  unfold fPl_size at hf
  refine v_aload_n (i := 1) (pc := 0) dPl_size_0 rfl rfl ?_
  refine v_bipush (pc := 1) (12:Int32) dPl_size_1 rfl ?_
  obtain ⟨u7, cu7, hf⟩ := bnd hf
  obtain ⟨h1, e6, hf⟩ := bnd hf
  refine v_M0 (pc := 3) (As := [.int (12:Int32)]) (rest := []) lmPl_9 cu7 (sTr_begin e6) ⟨Nat.le_of_ble_eq_true rfl, Nat.le_of_ble_eq_true rfl, Nat.le_of_ble_eq_true rfl, Nat.le_of_ble_eq_true rfl⟩ dPl_size_3 rfl rfl (Nat.le_of_ble_eq_true rfl) ?_
  refine v_iconst (pc := 6) (2:Int32) dPl_size_6 rfl ?_
  refine v_aload_n (i := 0) (pc := 7) dPl_size_7 rfl rfl ?_
  refine v_aload_n (i := 1) (pc := 8) dPl_size_8 rfl rfl ?_
  obtain ⟨u5, cu5, hf⟩ := bnd hf
  obtain ⟨h2, i3, e4, hf⟩ := bndp hf
  refine v_U1 (pc := 9) (As := [.ref a_1]) (rest := [.int (2:Int32)]) luPl_15 cu5 (sLo_size e4) ⟨Nat.le_of_ble_eq_true rfl, Nat.le_of_ble_eq_true rfl, Nat.le_of_ble_eq_true rfl, Nat.le_of_ble_eq_true rfl⟩ dPl_size_9 rfl rfl (Nat.le_of_ble_eq_true rfl) ?_
  refine v_imul (pc := 12) dPl_size_12 ?_
  exact v_iret (pc := 13) dPl_size_13 (by decide) (by decide) hf

abbrev rmTa_mark : Room := { frames := 1, cells := 0, slots := 0, locals := 21 }
def fTa_mark (h : MH) (a_0 : Nat) (a_1 : Nat) : Option (MH × Int32) := ((chk h a_1 9).bind fun _ => ((fTr_begin h a_1 (20:Int32)).bind fun h1 => ((gfI h1 a_0 [8, 1, 2, 4] 3).bind fun i2 => (some (h1, i2)))))
set_option maxRecDepth 20000 in
set_option maxHeartbeats 4000000 in
theorem sTa_mark {g : Gh} {h' : MH} {r' : Int32} {h : MH} {a_0 : Nat} {a_1 : Nat} (hf : fTa_mark h a_0 a_1 = some (h', r')) : Sp g yTa_mark cTa_mark 2 (some .int) rmTa_mark h [.ref a_0, .ref a_1] h' (some (.int r')) := by
  refine sp_of (by decide) (Nat.le_of_ble_eq_true rfl) ?_
  change V g yTa_mark cTa_mark 2 (some .int) rmTa_mark (ZQ g rmTa_mark h' (some (.int r'))) 0 0 h 0 [some (.ref a_0), some (.ref a_1)] []
  unfold fTa_mark at hf
  refine v_aload_n (i := 1) (pc := 0) dTa_mark_0 rfl rfl ?_
  refine v_bipush (pc := 1) (20:Int32) dTa_mark_1 rfl ?_
  obtain ⟨u4, cu4, hf⟩ := bnd hf
  obtain ⟨h1, e3, hf⟩ := bnd hf
  refine v_M0 (pc := 3) (As := [.int (20:Int32)]) (rest := []) lmTa_26 cu4 (sTr_begin e3) ⟨Nat.le_of_ble_eq_true rfl, Nat.le_of_ble_eq_true rfl, Nat.le_of_ble_eq_true rfl, Nat.le_of_ble_eq_true rfl⟩ dTa_mark_3 rfl rfl (Nat.le_of_ble_eq_true rfl) ?_
  refine v_aload_n (i := 0) (pc := 6) dTa_mark_6 rfl rfl ?_
  refine v_getI (pc := 7) fgTa_23 dTa_mark_7 hf (fun i2 hf => ?_)
  exact v_iret (pc := 10) dTa_mark_10 (by decide) (by decide) hf
abbrev rmKe_mark : Room := { frames := 2, cells := 0, slots := 0, locals := 42 }
def fKe_mark (h : MH) (a_0 : Nat) (a_1 : Nat) : Option (MH × Int32) := ((chk h a_1 9).bind fun _ => ((fTr_begin h a_1 (22:Int32)).bind fun h1 => ((okT h1 a_0).bind fun _ => (bnd2 (fTa_mark h1 a_0 a_1) fun h2 i3 => (some (h2, (i3 + (10:Int32))))))))
set_option maxRecDepth 20000 in
set_option maxHeartbeats 4000000 in
theorem sKe_mark {g : Gh} {h' : MH} {r' : Int32} {h : MH} {a_0 : Nat} {a_1 : Nat} (hf : fKe_mark h a_0 a_1 = some (h', r')) : Sp g yKe_mark cKe_mark 2 (some .int) rmKe_mark h [.ref a_0, .ref a_1] h' (some (.int r')) := by
  refine sp_of (by decide) (Nat.le_of_ble_eq_true rfl) ?_
  change V g yKe_mark cKe_mark 2 (some .int) rmKe_mark (ZQ g rmKe_mark h' (some (.int r'))) 0 0 h 0 [some (.ref a_0), some (.ref a_1)] []
  unfold fKe_mark at hf
  refine v_aload_n (i := 1) (pc := 0) dKe_mark_0 rfl rfl ?_
  refine v_bipush (pc := 1) (22:Int32) dKe_mark_1 rfl ?_
  obtain ⟨u7, cu7, hf⟩ := bnd hf
  obtain ⟨h1, e6, hf⟩ := bnd hf
  refine v_M0 (pc := 3) (As := [.int (22:Int32)]) (rest := []) lmKe_9 cu7 (sTr_begin e6) ⟨Nat.le_of_ble_eq_true rfl, Nat.le_of_ble_eq_true rfl, Nat.le_of_ble_eq_true rfl, Nat.le_of_ble_eq_true rfl⟩ dKe_mark_3 rfl rfl (Nat.le_of_ble_eq_true rfl) ?_
  refine v_aload_n (i := 0) (pc := 6) dKe_mark_6 rfl rfl ?_
  refine v_aload_n (i := 1) (pc := 7) dKe_mark_7 rfl rfl ?_
  obtain ⟨u5, cu5, hf⟩ := bnd hf
  obtain ⟨h2, i3, e4, hf⟩ := bndp hf
  refine v_U1 (pc := 8) (As := [.ref a_1]) (rest := []) luKe_24 cu5 (sTa_mark e4) ⟨Nat.le_of_ble_eq_true rfl, Nat.le_of_ble_eq_true rfl, Nat.le_of_ble_eq_true rfl, Nat.le_of_ble_eq_true rfl⟩ dKe_mark_8 rfl rfl (Nat.le_of_ble_eq_true rfl) ?_
  refine v_bipush (pc := 11) (10:Int32) dKe_mark_11 rfl ?_
  refine v_iadd (pc := 13) dKe_mark_13 ?_
  exact v_iret (pc := 14) dKe_mark_14 (by decide) (by decide) hf
abbrev rmKe_size : Room := { frames := 3, cells := 0, slots := 0, locals := 63 }
def fKe_size (h : MH) (a_0 : Nat) (a_1 : Nat) : Option (MH × Int32) := ((chk h a_1 9).bind fun _ => ((fTr_begin h a_1 (13:Int32)).bind fun h1 => ((okT h1 a_0).bind fun _ => (bnd2 (fTa_size h1 a_0 a_1) fun h2 i3 => ((chk h2 a_0 1).bind fun _ => (bnd2 (fKe_mark h2 a_0 a_1) fun h4 i5 => (some (h4, (i3 + i5)))))))))
set_option maxRecDepth 20000 in
set_option maxHeartbeats 4000000 in
theorem sKe_size {g : Gh} {h' : MH} {r' : Int32} {h : MH} {a_0 : Nat} {a_1 : Nat} (hf : fKe_size h a_0 a_1 = some (h', r')) : Sp g yKe_size cKe_size 2 (some .int) rmKe_size h [.ref a_0, .ref a_1] h' (some (.int r')) := by
  refine sp_of (by decide) (Nat.le_of_ble_eq_true rfl) ?_
  change V g yKe_size cKe_size 2 (some .int) rmKe_size (ZQ g rmKe_size h' (some (.int r'))) 0 0 h 0 [some (.ref a_0), some (.ref a_1)] []
  unfold fKe_size at hf
  refine v_aload_n (i := 1) (pc := 0) dKe_size_0 rfl rfl ?_
  refine v_bipush (pc := 1) (13:Int32) dKe_size_1 rfl ?_
  obtain ⟨u11, cu11, hf⟩ := bnd hf
  obtain ⟨h1, e10, hf⟩ := bnd hf
  refine v_M0 (pc := 3) (As := [.int (13:Int32)]) (rest := []) lmKe_9 cu11 (sTr_begin e10) ⟨Nat.le_of_ble_eq_true rfl, Nat.le_of_ble_eq_true rfl, Nat.le_of_ble_eq_true rfl, Nat.le_of_ble_eq_true rfl⟩ dKe_size_3 rfl rfl (Nat.le_of_ble_eq_true rfl) ?_
  refine v_aload_n (i := 0) (pc := 6) dKe_size_6 rfl rfl ?_
  refine v_aload_n (i := 1) (pc := 7) dKe_size_7 rfl rfl ?_
  obtain ⟨u9, cu9, hf⟩ := bnd hf
  obtain ⟨h2, i3, e8, hf⟩ := bndp hf
  refine v_U1 (pc := 8) (As := [.ref a_1]) (rest := []) luKe_15 cu9 (sTa_size e8) ⟨Nat.le_of_ble_eq_true rfl, Nat.le_of_ble_eq_true rfl, Nat.le_of_ble_eq_true rfl, Nat.le_of_ble_eq_true rfl⟩ dKe_size_8 rfl rfl (Nat.le_of_ble_eq_true rfl) ?_
  refine v_aload_n (i := 0) (pc := 11) dKe_size_11 rfl rfl ?_
  refine v_aload_n (i := 1) (pc := 12) dKe_size_12 rfl rfl ?_
  obtain ⟨u7, cu7, hf⟩ := bnd hf
  obtain ⟨h4, i5, e6, hf⟩ := bndp hf
  refine v_M1 (pc := 13) (As := [.ref a_1]) (rest := [.int i3]) lmKe_19 cu7 (sKe_mark e6) ⟨Nat.le_of_ble_eq_true rfl, Nat.le_of_ble_eq_true rfl, Nat.le_of_ble_eq_true rfl, Nat.le_of_ble_eq_true rfl⟩ dKe_size_13 rfl rfl (Nat.le_of_ble_eq_true rfl) ?_
  refine v_iadd (pc := 16) dKe_size_16 ?_
  exact v_iret (pc := 17) dKe_size_17 (by decide) (by decide) hf
def fDTa_size (h : MH) (a_0 : Nat) (a_1 : Nat) : Option (MH × Int32) := (tg h a_0).bind fun t => (if t = 8 then fTa_size h a_0 a_1 else (if t = 2 then fLo_size h a_0 a_1 else (if t = 4 then fPl_size h a_0 a_1 else (if t = 1 then fKe_size h a_0 a_1 else none))))
theorem dDTa_size {g : Gh} {h h' : MH} {r' : Int32} {a_0 : Nat} {a_1 : Nat} (e : fDTa_size h a_0 a_1 = some (h', r')) : SD g yTa_size (some .int) 1 4 84 h a_0 [.ref a_1] h' (some (.int r')) := by
  unfold fDTa_size at e
  obtain ⟨t, et, e⟩ := bnd e
  by_cases h8 : t = 8
  · subst h8
    exact ⟨8, RTa, TTa, 4, yTa_size, cTa_size, 2, rmTa_size, rfl, gw 590 (by decide +kernel) (by decide +kernel), gw 591 (by decide +kernel) (by decide +kernel), lcTa_size, chk_tg et, sTa_size (if_t e rfl), by decide, by decide, rfl, rfl⟩
  replace e := if_f e h8
  by_cases h2 : t = 2
  · subst h2
    exact ⟨2, RLo, TLo, 4, yLo_size, cLo_size, 2, rmLo_size, rfl, gw 610 (by decide +kernel) (by decide +kernel), gw 609 (by decide +kernel) (by decide +kernel), lcLo_size, chk_tg et, sLo_size (if_t e rfl), by decide, by decide, rfl, rfl⟩
  replace e := if_f e h2
  by_cases h4 : t = 4
  · subst h4
    exact ⟨4, RPl, TPl, 4, yPl_size, cPl_size, 2, rmPl_size, rfl, gw 615 (by decide +kernel) (by decide +kernel), gw 614 (by decide +kernel) (by decide +kernel), lcPl_size, chk_tg et, sPl_size (if_t e rfl), by decide, by decide, rfl, rfl⟩
  replace e := if_f e h4
  by_cases h1 : t = 1
  · subst h1
    exact ⟨1, RKe, TKe, 4, yKe_size, cKe_size, 2, rmKe_size, rfl, gw 594 (by decide +kernel) (by decide +kernel), gw 593 (by decide +kernel) (by decide +kernel), lcKe_size, chk_tg et, sKe_size (if_t e rfl), by decide, by decide, rfl, rfl⟩
  replace e := if_f e h1
  cases e
def fDLo_size (h : MH) (a_0 : Nat) (a_1 : Nat) : Option (MH × Int32) := (tg h a_0).bind fun t => (if t = 2 then fLo_size h a_0 a_1 else (if t = 4 then fPl_size h a_0 a_1 else none))
theorem dDLo_size {g : Gh} {h h' : MH} {r' : Int32} {a_0 : Nat} {a_1 : Nat} (e : fDLo_size h a_0 a_1 = some (h', r')) : SD g yLo_size (some .int) 1 4 84 h a_0 [.ref a_1] h' (some (.int r')) := by
  unfold fDLo_size at e
  obtain ⟨t, et, e⟩ := bnd e
  by_cases h2 : t = 2
  · subst h2
    exact ⟨2, RLo, TLo, 4, yLo_size, cLo_size, 2, rmLo_size, rfl, gw 610 (by decide +kernel) (by decide +kernel), gw 998 (by decide +kernel) (by decide +kernel), lcLo_size, chk_tg et, sLo_size (if_t e rfl), by decide, by decide, rfl, rfl⟩
  replace e := if_f e h2
  by_cases h4 : t = 4
  · subst h4
    exact ⟨4, RPl, TPl, 4, yPl_size, cPl_size, 2, rmPl_size, rfl, gw 615 (by decide +kernel) (by decide +kernel), gw 999 (by decide +kernel) (by decide +kernel), lcPl_size, chk_tg et, sPl_size (if_t e rfl), by decide, by decide, rfl, rfl⟩
  replace e := if_f e h4
  cases e
abbrev rmLo_mark : Room := { frames := 4, cells := 0, slots := 0, locals := 84 }
def fLo_mark (h : MH) (a_0 : Nat) (a_1 : Nat) : Option (MH × Int32) := ((chk h a_1 9).bind fun _ => ((fTr_begin h a_1 (21:Int32)).bind fun h1 => ((okT h1 a_0).bind fun _ => (bnd2 (fTa_mark h1 a_0 a_1) fun h2 i3 => (bnd2 (fDLo_size h2 a_0 a_1) fun h4 i5 => (some (h4, (i3 + i5))))))))
set_option maxRecDepth 20000 in
set_option maxHeartbeats 4000000 in
theorem sLo_mark {g : Gh} {h' : MH} {r' : Int32} {h : MH} {a_0 : Nat} {a_1 : Nat} (hf : fLo_mark h a_0 a_1 = some (h', r')) : Sp g yLo_mark cLo_mark 2 (some .int) rmLo_mark h [.ref a_0, .ref a_1] h' (some (.int r')) := by
  refine sp_of (by decide) (Nat.le_of_ble_eq_true rfl) ?_
  change V g yLo_mark cLo_mark 2 (some .int) rmLo_mark (ZQ g rmLo_mark h' (some (.int r'))) 0 0 h 0 [some (.ref a_0), some (.ref a_1)] []
  unfold fLo_mark at hf
  refine v_aload_n (i := 1) (pc := 0) dLo_mark_0 rfl rfl ?_
  refine v_bipush (pc := 1) (21:Int32) dLo_mark_1 rfl ?_
  obtain ⟨u10, cu10, hf⟩ := bnd hf
  obtain ⟨h1, e9, hf⟩ := bnd hf
  refine v_M0 (pc := 3) (As := [.int (21:Int32)]) (rest := []) lmLo_9 cu10 (sTr_begin e9) ⟨Nat.le_of_ble_eq_true rfl, Nat.le_of_ble_eq_true rfl, Nat.le_of_ble_eq_true rfl, Nat.le_of_ble_eq_true rfl⟩ dLo_mark_3 rfl rfl (Nat.le_of_ble_eq_true rfl) ?_
  refine v_aload_n (i := 0) (pc := 6) dLo_mark_6 rfl rfl ?_
  refine v_aload_n (i := 1) (pc := 7) dLo_mark_7 rfl rfl ?_
  obtain ⟨u8, cu8, hf⟩ := bnd hf
  obtain ⟨h2, i3, e7, hf⟩ := bndp hf
  refine v_U1 (pc := 8) (As := [.ref a_1]) (rest := []) luLo_19 cu8 (sTa_mark e7) ⟨Nat.le_of_ble_eq_true rfl, Nat.le_of_ble_eq_true rfl, Nat.le_of_ble_eq_true rfl, Nat.le_of_ble_eq_true rfl⟩ dLo_mark_8 rfl rfl (Nat.le_of_ble_eq_true rfl) ?_
  refine v_aload_n (i := 0) (pc := 11) dLo_mark_11 rfl rfl ?_
  refine v_aload_n (i := 1) (pc := 12) dLo_mark_12 rfl rfl ?_
  obtain ⟨h4, i5, e6, hf⟩ := bndp hf
  refine v_D1 (pc := 13) (As := [.ref a_1]) (rest := [.int i3]) lxLo_22 (dDLo_size e6) (by decide) dLo_mark_13 rfl rfl (Nat.le_of_ble_eq_true rfl) ?_
  refine v_iadd (pc := 16) dLo_mark_16 ?_
  exact v_iret (pc := 17) dLo_mark_17 (by decide) (by decide) hf
def fDTa_mark (h : MH) (a_0 : Nat) (a_1 : Nat) : Option (MH × Int32) := (tg h a_0).bind fun t => (if t = 8 then fTa_mark h a_0 a_1 else (if t = 2 then fLo_mark h a_0 a_1 else (if t = 4 then fLo_mark h a_0 a_1 else (if t = 1 then fKe_mark h a_0 a_1 else none))))
theorem dDTa_mark {g : Gh} {h h' : MH} {r' : Int32} {a_0 : Nat} {a_1 : Nat} (e : fDTa_mark h a_0 a_1 = some (h', r')) : SD g yTa_mark (some .int) 1 5 105 h a_0 [.ref a_1] h' (some (.int r')) := by
  unfold fDTa_mark at e
  obtain ⟨t, et, e⟩ := bnd e
  by_cases h8 : t = 8
  · subst h8
    exact ⟨8, RTa, TTa, 4, yTa_mark, cTa_mark, 2, rmTa_mark, rfl, gw 606 (by decide +kernel) (by decide +kernel), gw 1001 (by decide +kernel) (by decide +kernel), lcTa_mark, chk_tg et, sTa_mark (if_t e rfl), by decide, by decide, rfl, rfl⟩
  replace e := if_f e h8
  by_cases h2 : t = 2
  · subst h2
    exact ⟨2, RLo, TLo, 4, yLo_mark, cLo_mark, 2, rmLo_mark, rfl, gw 621 (by decide +kernel) (by decide +kernel), gw 997 (by decide +kernel) (by decide +kernel), lcLo_mark, chk_tg et, sLo_mark (if_t e rfl), by decide, by decide, rfl, rfl⟩
  replace e := if_f e h2
  by_cases h4 : t = 4
  · subst h4
    exact ⟨4, RPl, TPl, 4, yLo_mark, cLo_mark, 2, rmLo_mark, rfl, gw 621 (by decide +kernel) (by decide +kernel), gw 1000 (by decide +kernel) (by decide +kernel), lcLo_mark, chk_tg et, sLo_mark (if_t e rfl), by decide, by decide, rfl, rfl⟩
  replace e := if_f e h4
  by_cases h1 : t = 1
  · subst h1
    exact ⟨1, RKe, TKe, 4, yKe_mark, cKe_mark, 2, rmKe_mark, rfl, gw 602 (by decide +kernel) (by decide +kernel), gw 996 (by decide +kernel) (by decide +kernel), lcKe_mark, chk_tg et, sKe_mark (if_t e rfl), by decide, by decide, rfl, rfl⟩
  replace e := if_f e h1
  cases e
abbrev rmX_ask : Room := { frames := 5, cells := 0, slots := 0, locals := 105 }
def fX_ask_68 (n : Nat) (h : MH) (s0 : Int32) (s1 : Nat) : Option (MH × Int32) := ((chk h s1 11).bind fun _ => (bnd2 (fX_well h s1 s0) fun h1 i2 => (some (h1, i2))))
set_option maxRecDepth 20000 in
set_option maxHeartbeats 4000000 in
theorem tX_ask_68 {g : Gh} {h' : MH} {r' : Int32} (n : Nat) (h : MH) (s0 : Int32) (s1 : Nat) (hf : fX_ask_68 n h s0 s1 = some (h', r')) : V g yX_ask cX_ask 4 (some .int) rmX_ask (ZQ g rmX_ask h' (some (.int r'))) 0 0 h 68 [none, none, none, none] [.int s0, .ref s1] := by
  unfold fX_ask_68 at hf
  obtain ⟨u4, cu4, hf⟩ := bnd hf
  obtain ⟨h1, i2, e3, hf⟩ := bndp hf
  refine v_M1 (pc := 68) (As := [.int s0]) (rest := []) lmX_80 cu4 (sX_well e3) ⟨Nat.le_of_ble_eq_true rfl, Nat.le_of_ble_eq_true rfl, Nat.le_of_ble_eq_true rfl, Nat.le_of_ble_eq_true rfl⟩ dX_ask_68 rfl rfl (Nat.le_of_ble_eq_true rfl) ?_
  exact v_iret (pc := 71) dX_ask_71 (by decide) (by decide) hf
def fX_ask (n : Nat) (h : MH) (a_0 : Nat) (i_1 : Int32) (i_2 : Int32) : Option (MH × Int32) := (bnd2 (fX_noPlace n h i_1) fun h1 i2 => (if i2 = (0:Int32) then (if i_2 < (0:Int32) then (some (h1, (-1000001:Int32))) else (if i_2 ≤ (1:Int32) then ((gfR h1 a_0 [11] 4).bind fun a3 => ((pf h1 a3 [9] 1 (.int (0:Int32))).bind fun h4 => ((gfR h4 a_0 [11] 6).bind fun a5 => (rdRn h4 a5 4 i_1 ((chk h4 a_0 11).bind fun _ => (bnd2 (fX_found h4 a_0 (1:Int32)) fun h15 i16 => (some (h15, i16)))) fun a6 => (if i_2 = (0:Int32) then ((gfR h4 a_0 [11] 4).bind fun a11 => (bnd2 (fDTa_size h4 a6 a11) fun h12 i13 => (fX_ask_68 n h12 i13 a_0))) else ((gfR h4 a_0 [11] 4).bind fun a7 => (bnd2 (fDTa_mark h4 a6 a7) fun h8 i9 => (fX_ask_68 n h8 i9 a_0)))))))) else (some (h1, (-1000001:Int32))))) else (some (h1, (-1000001:Int32)))))
set_option maxRecDepth 20000 in
set_option maxHeartbeats 4000000 in
theorem sX_ask {g : Gh} {h' : MH} {r' : Int32} {n : Nat} {h : MH} {a_0 : Nat} {i_1 : Int32} {i_2 : Int32} (hf : fX_ask n h a_0 i_1 i_2 = some (h', r')) : Sp g yX_ask cX_ask 4 (some .int) rmX_ask h [.ref a_0, .int i_1, .int i_2] h' (some (.int r')) := by
  refine sp_of (by decide) (Nat.le_of_ble_eq_true rfl) ?_
  change V g yX_ask cX_ask 4 (some .int) rmX_ask (ZQ g rmX_ask h' (some (.int r'))) 0 0 h 0 [some (.ref a_0), some (.int i_1), some (.int i_2), none] []
  unfold fX_ask at hf
  refine v_iload_n (i := 1) (pc := 0) dX_ask_0 rfl rfl ?_
  obtain ⟨h1, i2, e19, hf⟩ := bndp hf
  refine v_S1 (pc := 1) (As := [.int i_1]) (rest := []) lsX_143 (sX_noPlace e19) ⟨Nat.le_of_ble_eq_true rfl, Nat.le_of_ble_eq_true rfl, Nat.le_of_ble_eq_true rfl, Nat.le_of_ble_eq_true rfl⟩ dX_ask_1 rfl rfl (Nat.le_of_ble_eq_true rfl) ?_
  refine v_if_ne (pc := 4) (tgt := 16) dX_ask_4 rfl hf (fun hf => ?_) (fun hf => ?_)
  rotate_left
  · refine v_ldc (pc := 16) dX_ask_16 kiX_71 ?_
    exact v_iret (pc := 18) dX_ask_18 (by decide) (by decide) hf
  refine v_iload_n (i := 2) (pc := 7) dX_ask_7 rfl rfl ?_
  refine v_if_lt (pc := 8) (tgt := 16) dX_ask_8 rfl hf (fun hf => ?_) (fun hf => ?_)
  · refine v_ldc (pc := 16) dX_ask_16 kiX_71 ?_
    exact v_iret (pc := 18) dX_ask_18 (by decide) (by decide) hf
  refine v_iload_n (i := 2) (pc := 11) dX_ask_11 rfl rfl ?_
  refine v_iconst (pc := 12) (1:Int32) dX_ask_12 rfl ?_
  refine v_icmp_le (pc := 13) (tgt := 19) dX_ask_13 rfl hf (fun hf => ?_) (fun hf => ?_)
  rotate_left
  · refine v_ldc (pc := 16) dX_ask_16 kiX_71 ?_
    exact v_iret (pc := 18) dX_ask_18 (by decide) (by decide) hf
  refine v_aload_n (i := 0) (pc := 19) dX_ask_19 rfl rfl ?_
  refine v_getR (pc := 20) fgX_46 dX_ask_20 hf (fun a3 hf => ?_)
  refine v_iconst (pc := 23) (0:Int32) dX_ask_23 rfl ?_
  refine v_put (pc := 24) fpX_206 (fun _ => ⟨rfl, rfl⟩) dX_ask_24 hf (fun h4 hf => ?_)
  refine v_aload_n (i := 0) (pc := 27) dX_ask_27 rfl rfl ?_
  refine v_getR (pc := 28) fgX_59 dX_ask_28 hf (fun a5 hf => ?_)
  refine v_iload_n (i := 1) (pc := 31) dX_ask_31 rfl rfl ?_
  refine v_aald (pc := 32) (Or.inr (Or.inr rfl)) dX_ask_32 hf (fun hf => ?_) (fun a6 hf => ?_)
  · refine v_astoreN_n (i := 3) (pc := 33) (ls' := [some (.ref a_0), some (.int i_1), some (.int i_2), some (.null)]) dX_ask_33 rfl (by decide) rfl ?_
    refine v_aloadN_n (i := 3) (pc := 34) dX_ask_34 rfl rfl ?_
    refine v_ifnonnullN (pc := 35) dX_ask_35 ?_
    refine v_aload_n (i := 0) (pc := 38) dX_ask_38 rfl rfl ?_
    refine v_iconst (pc := 39) (1:Int32) dX_ask_39 rfl ?_
    obtain ⟨u18, cu18, hf⟩ := bnd hf
    obtain ⟨h15, i16, e17, hf⟩ := bndp hf
    refine v_M1 (pc := 40) (As := [.int (1:Int32)]) (rest := []) lmX_72 cu18 (sX_found e17) ⟨Nat.le_of_ble_eq_true rfl, Nat.le_of_ble_eq_true rfl, Nat.le_of_ble_eq_true rfl, Nat.le_of_ble_eq_true rfl⟩ dX_ask_40 rfl rfl (Nat.le_of_ble_eq_true rfl) ?_
    exact v_iret (pc := 43) dX_ask_43 (by decide) (by decide) hf
  refine v_astore_n (i := 3) (pc := 33) (ls' := [some (.ref a_0), some (.int i_1), some (.int i_2), some (.ref a6)]) dX_ask_33 rfl (by decide) rfl ?_
  refine v_aload_n (i := 3) (pc := 34) dX_ask_34 rfl rfl ?_
  refine v_ifnonnull (pc := 35) (tgt := 44) dX_ask_35 rfl ?_
  refine v_aload_n (i := 0) (pc := 44) dX_ask_44 rfl rfl ?_
  refine v_iload_n (i := 2) (pc := 45) dX_ask_45 rfl rfl ?_
  refine v_if_ne (pc := 46) (tgt := 60) dX_ask_46 rfl hf (fun hf => ?_) (fun hf => ?_)
  rotate_left
  · refine v_aload_n (i := 3) (pc := 60) dX_ask_60 rfl rfl ?_
    refine v_aload_n (i := 0) (pc := 61) dX_ask_61 rfl rfl ?_
    refine v_getR (pc := 62) fgX_46 dX_ask_62 hf (fun a7 hf => ?_)
    obtain ⟨h8, i9, e10, hf⟩ := bndp hf
    refine v_D1 (pc := 65) (As := [.ref a7]) (rest := [.ref a_0]) lxX_211 (dDTa_mark e10) (by decide) dX_ask_65 rfl rfl (Nat.le_of_ble_eq_true rfl) ?_
    refine v_wk (ls' := [none, none, none, none]) trivial ?_
    exact tX_ask_68 n h8 i9 a_0 hf
  refine v_aload_n (i := 3) (pc := 49) dX_ask_49 rfl rfl ?_
  refine v_aload_n (i := 0) (pc := 50) dX_ask_50 rfl rfl ?_
  refine v_getR (pc := 51) fgX_46 dX_ask_51 hf (fun a11 hf => ?_)
  obtain ⟨h12, i13, e14, hf⟩ := bndp hf
  refine v_D1 (pc := 54) (As := [.ref a11]) (rest := [.ref a_0]) lxX_207 (dDTa_size e14) (by decide) dX_ask_54 rfl rfl (Nat.le_of_ble_eq_true rfl) ?_
  refine v_goto (pc := 57) (tgt := 68) dX_ask_57 rfl ?_
  refine v_wk (ls' := [none, none, none, none]) trivial ?_
  exact tX_ask_68 n h12 i13 a_0 hf
abbrev rmX_trace : Room := { frames := 0, cells := 0, slots := 0, locals := 0 }
def fX_trace_15 (n : Nat) (h : MH) : Option (MH × Int32) := (some (h, (-1000000:Int32)))
set_option maxRecDepth 20000 in
set_option maxHeartbeats 4000000 in
theorem tX_trace_15 {g : Gh} {h' : MH} {r' : Int32} (n : Nat) (h : MH) (hf : fX_trace_15 n h = some (h', r')) : V g yX_trace cX_trace 2 (some .int) rmX_trace (ZQ g rmX_trace h' (some (.int r'))) 0 0 h 15 [none, none] [] := by
  unfold fX_trace_15 at hf
  refine v_ldc (pc := 15) dX_trace_15 kiX_135 ?_
  refine v_goto (pc := 17) (tgt := 29) dX_trace_17 rfl ?_
  exact v_iret (pc := 29) dX_trace_29 (by decide) (by decide) hf
def fX_trace (n : Nat) (h : MH) (a_0 : Nat) (i_1 : Int32) : Option (MH × Int32) := (if i_1 < (0:Int32) then (fX_trace_15 n h) else ((gfR h a_0 [11] 4).bind fun a1 => ((gfI h a1 [9] 1).bind fun i2 => (if i_1 < i2 then ((gfR h a_0 [11] 4).bind fun a3 => ((gfR h a3 [9] 0).bind fun a4 => ((rdI h a4 i_1).bind fun i5 => (some (h, i5))))) else (fX_trace_15 n h)))))
set_option maxRecDepth 20000 in
set_option maxHeartbeats 4000000 in
theorem sX_trace {g : Gh} {h' : MH} {r' : Int32} {n : Nat} {h : MH} {a_0 : Nat} {i_1 : Int32} (hf : fX_trace n h a_0 i_1 = some (h', r')) : Sp g yX_trace cX_trace 2 (some .int) rmX_trace h [.ref a_0, .int i_1] h' (some (.int r')) := by
  refine sp_of (by decide) (Nat.le_of_ble_eq_true rfl) ?_
  change V g yX_trace cX_trace 2 (some .int) rmX_trace (ZQ g rmX_trace h' (some (.int r'))) 0 0 h 0 [some (.ref a_0), some (.int i_1)] []
  unfold fX_trace at hf
  refine v_iload_n (i := 1) (pc := 0) dX_trace_0 rfl rfl ?_
  refine v_if_lt (pc := 1) (tgt := 15) dX_trace_1 rfl hf (fun hf => ?_) (fun hf => ?_)
  · refine v_wk (ls' := [none, none]) trivial ?_
    exact tX_trace_15 n h hf
  refine v_iload_n (i := 1) (pc := 4) dX_trace_4 rfl rfl ?_
  refine v_aload_n (i := 0) (pc := 5) dX_trace_5 rfl rfl ?_
  refine v_getR (pc := 6) fgX_46 dX_trace_6 hf (fun a1 hf => ?_)
  refine v_getI (pc := 9) fgX_206 dX_trace_9 hf (fun i2 hf => ?_)
  refine v_icmp_lt (pc := 12) (tgt := 20) dX_trace_12 rfl hf (fun hf => ?_) (fun hf => ?_)
  rotate_left
  · refine v_wk (ls' := [none, none]) trivial ?_
    exact tX_trace_15 n h hf
  refine v_aload_n (i := 0) (pc := 20) dX_trace_20 rfl rfl ?_
  refine v_getR (pc := 21) fgX_46 dX_trace_21 hf (fun a3 hf => ?_)
  refine v_getR (pc := 24) fgX_214 dX_trace_24 hf (fun a4 hf => ?_)
  refine v_iload_n (i := 1) (pc := 27) dX_trace_27 rfl rfl ?_
  refine v_iald (pc := 28) dX_trace_28 hf (fun i5 hf => ?_)
  exact v_iret (pc := 29) dX_trace_29 (by decide) (by decide) hf
abbrev rmX_weight : Room := { frames := 1, cells := 0, slots := 0, locals := 21 }
def fX_weight (n : Nat) (h : MH) (a_0 : Nat) (i_1 : Int32) (i_2 : Int32) : Option (MH × Int32) := (bnd2 (fX_noPlace n h i_1) fun h1 i2 => (if i2 = (0:Int32) then (bnd2 (fX_noTree n h1 i_2) fun h3 i4 => (if i4 = (0:Int32) then ((gfR h3 a_0 [11] 6).bind fun a5 => (rdRn h3 a5 4 i_1 ((chk h3 a_0 11).bind fun _ => (bnd2 (fX_found h3 a_0 (1:Int32)) fun h13 i14 => (some (h13, i14)))) fun a6 => ((gfR h3 a6 [8, 1, 2, 4] 1).bind fun a7 => ((rdI h3 a7 i_2).bind fun i8 => ((chk h3 a_0 11).bind fun _ => (bnd2 (fX_well h3 a_0 i8) fun h9 i10 => (some (h9, i10)))))))) else (some (h3, (-1000001:Int32))))) else (some (h1, (-1000001:Int32)))))
set_option maxRecDepth 20000 in
set_option maxHeartbeats 4000000 in
theorem sX_weight {g : Gh} {h' : MH} {r' : Int32} {n : Nat} {h : MH} {a_0 : Nat} {i_1 : Int32} {i_2 : Int32} (hf : fX_weight n h a_0 i_1 i_2 = some (h', r')) : Sp g yX_weight cX_weight 4 (some .int) rmX_weight h [.ref a_0, .int i_1, .int i_2] h' (some (.int r')) := by
  refine sp_of (by decide) (Nat.le_of_ble_eq_true rfl) ?_
  change V g yX_weight cX_weight 4 (some .int) rmX_weight (ZQ g rmX_weight h' (some (.int r'))) 0 0 h 0 [some (.ref a_0), some (.int i_1), some (.int i_2), none] []
  unfold fX_weight at hf
  refine v_iload_n (i := 1) (pc := 0) dX_weight_0 rfl rfl ?_
  obtain ⟨h1, i2, e18, hf⟩ := bndp hf
  refine v_S1 (pc := 1) (As := [.int i_1]) (rest := []) lsX_143 (sX_noPlace e18) ⟨Nat.le_of_ble_eq_true rfl, Nat.le_of_ble_eq_true rfl, Nat.le_of_ble_eq_true rfl, Nat.le_of_ble_eq_true rfl⟩ dX_weight_1 rfl rfl (Nat.le_of_ble_eq_true rfl) ?_
  refine v_if_ne (pc := 4) (tgt := 14) dX_weight_4 rfl hf (fun hf => ?_) (fun hf => ?_)
  rotate_left
  · refine v_ldc (pc := 14) dX_weight_14 kiX_71 ?_
    exact v_iret (pc := 16) dX_weight_16 (by decide) (by decide) hf
  refine v_iload_n (i := 2) (pc := 7) dX_weight_7 rfl rfl ?_
  obtain ⟨h3, i4, e17, hf⟩ := bndp hf
  refine v_S1 (pc := 8) (As := [.int i_2]) (rest := []) lsX_119 (sX_noTree e17) ⟨Nat.le_of_ble_eq_true rfl, Nat.le_of_ble_eq_true rfl, Nat.le_of_ble_eq_true rfl, Nat.le_of_ble_eq_true rfl⟩ dX_weight_8 rfl rfl (Nat.le_of_ble_eq_true rfl) ?_
  refine v_if_eq (pc := 11) (tgt := 17) dX_weight_11 rfl hf (fun hf => ?_) (fun hf => ?_)
  rotate_left
  · refine v_ldc (pc := 14) dX_weight_14 kiX_71 ?_
    exact v_iret (pc := 16) dX_weight_16 (by decide) (by decide) hf
  refine v_aload_n (i := 0) (pc := 17) dX_weight_17 rfl rfl ?_
  refine v_getR (pc := 18) fgX_59 dX_weight_18 hf (fun a5 hf => ?_)
  refine v_iload_n (i := 1) (pc := 21) dX_weight_21 rfl rfl ?_
  refine v_aald (pc := 22) (Or.inr (Or.inr rfl)) dX_weight_22 hf (fun hf => ?_) (fun a6 hf => ?_)
  · refine v_astoreN_n (i := 3) (pc := 23) (ls' := [some (.ref a_0), some (.int i_1), some (.int i_2), some (.null)]) dX_weight_23 rfl (by decide) rfl ?_
    refine v_aloadN_n (i := 3) (pc := 24) dX_weight_24 rfl rfl ?_
    refine v_ifnonnullN (pc := 25) dX_weight_25 ?_
    refine v_aload_n (i := 0) (pc := 28) dX_weight_28 rfl rfl ?_
    refine v_iconst (pc := 29) (1:Int32) dX_weight_29 rfl ?_
    obtain ⟨u16, cu16, hf⟩ := bnd hf
    obtain ⟨h13, i14, e15, hf⟩ := bndp hf
    refine v_M1 (pc := 30) (As := [.int (1:Int32)]) (rest := []) lmX_72 cu16 (sX_found e15) ⟨Nat.le_of_ble_eq_true rfl, Nat.le_of_ble_eq_true rfl, Nat.le_of_ble_eq_true rfl, Nat.le_of_ble_eq_true rfl⟩ dX_weight_30 rfl rfl (Nat.le_of_ble_eq_true rfl) ?_
    refine v_goto (pc := 33) (tgt := 46) dX_weight_33 rfl ?_
    exact v_iret (pc := 46) dX_weight_46 (by decide) (by decide) hf
  refine v_astore_n (i := 3) (pc := 23) (ls' := [some (.ref a_0), some (.int i_1), some (.int i_2), some (.ref a6)]) dX_weight_23 rfl (by decide) rfl ?_
  refine v_aload_n (i := 3) (pc := 24) dX_weight_24 rfl rfl ?_
  refine v_ifnonnull (pc := 25) (tgt := 36) dX_weight_25 rfl ?_
  refine v_aload_n (i := 0) (pc := 36) dX_weight_36 rfl rfl ?_
  refine v_aload_n (i := 3) (pc := 37) dX_weight_37 rfl rfl ?_
  refine v_getR (pc := 38) fgX_217 dX_weight_38 hf (fun a7 hf => ?_)
  refine v_iload_n (i := 2) (pc := 41) dX_weight_41 rfl rfl ?_
  refine v_iald (pc := 42) dX_weight_42 hf (fun i8 hf => ?_)
  obtain ⟨u12, cu12, hf⟩ := bnd hf
  obtain ⟨h9, i10, e11, hf⟩ := bndp hf
  refine v_M1 (pc := 43) (As := [.int i8]) (rest := []) lmX_80 cu12 (sX_well e11) ⟨Nat.le_of_ble_eq_true rfl, Nat.le_of_ble_eq_true rfl, Nat.le_of_ble_eq_true rfl, Nat.le_of_ble_eq_true rfl⟩ dX_weight_43 rfl rfl (Nat.le_of_ble_eq_true rfl) ?_
  exact v_iret (pc := 46) dX_weight_46 (by decide) (by decide) hf
abbrev rmX_order : Room := { frames := 1, cells := 0, slots := 0, locals := 21 }
def fX_order_52 (n : Nat) (h : MH) (s0 : Int32) (s1 : Nat) : Option (MH × Int32) := ((chk h s1 11).bind fun _ => (bnd2 (fX_well h s1 s0) fun h1 i2 => (some (h1, i2))))
set_option maxRecDepth 20000 in
set_option maxHeartbeats 4000000 in
theorem tX_order_52 {g : Gh} {h' : MH} {r' : Int32} (n : Nat) (h : MH) (s0 : Int32) (s1 : Nat) (hf : fX_order_52 n h s0 s1 = some (h', r')) : V g yX_order cX_order 4 (some .int) rmX_order (ZQ g rmX_order h' (some (.int r'))) 0 0 h 52 [none, none, none, none] [.int s0, .ref s1] := by
  unfold fX_order_52 at hf
  obtain ⟨u4, cu4, hf⟩ := bnd hf
  obtain ⟨h1, i2, e3, hf⟩ := bndp hf
  refine v_M1 (pc := 52) (As := [.int s0]) (rest := []) lmX_80 cu4 (sX_well e3) ⟨Nat.le_of_ble_eq_true rfl, Nat.le_of_ble_eq_true rfl, Nat.le_of_ble_eq_true rfl, Nat.le_of_ble_eq_true rfl⟩ dX_order_52 rfl rfl (Nat.le_of_ble_eq_true rfl) ?_
  exact v_iret (pc := 55) dX_order_55 (by decide) (by decide) hf
def fX_order (n : Nat) (h : MH) (a_0 : Nat) (i_1 : Int32) (i_2 : Int32) : Option (MH × Int32) := (bnd2 (fX_noPlace n h i_1) fun h1 i2 => (if i2 = (0:Int32) then (if i_2 < (0:Int32) then (some (h1, (-1000001:Int32))) else (if i_2 ≤ (1:Int32) then ((gfR h1 a_0 [11] 6).bind fun a3 => (rdRn h1 a3 4 i_1 ((chk h1 a_0 11).bind fun _ => (bnd2 (fX_found h1 a_0 (1:Int32)) fun h7 i8 => (some (h7, i8)))) fun a4 => (if i_2 = (0:Int32) then ((gfI h1 a4 [8, 1, 2, 4] 3).bind fun i6 => (fX_order_52 n h1 i6 a_0)) else ((gfI h1 a4 [8, 1, 2, 4] 2).bind fun i5 => (fX_order_52 n h1 i5 a_0))))) else (some (h1, (-1000001:Int32))))) else (some (h1, (-1000001:Int32)))))
set_option maxRecDepth 20000 in
set_option maxHeartbeats 4000000 in
theorem sX_order {g : Gh} {h' : MH} {r' : Int32} {n : Nat} {h : MH} {a_0 : Nat} {i_1 : Int32} {i_2 : Int32} (hf : fX_order n h a_0 i_1 i_2 = some (h', r')) : Sp g yX_order cX_order 4 (some .int) rmX_order h [.ref a_0, .int i_1, .int i_2] h' (some (.int r')) := by
  refine sp_of (by decide) (Nat.le_of_ble_eq_true rfl) ?_
  change V g yX_order cX_order 4 (some .int) rmX_order (ZQ g rmX_order h' (some (.int r'))) 0 0 h 0 [some (.ref a_0), some (.int i_1), some (.int i_2), none] []
  unfold fX_order at hf
  refine v_iload_n (i := 1) (pc := 0) dX_order_0 rfl rfl ?_
  obtain ⟨h1, i2, e11, hf⟩ := bndp hf
  refine v_S1 (pc := 1) (As := [.int i_1]) (rest := []) lsX_143 (sX_noPlace e11) ⟨Nat.le_of_ble_eq_true rfl, Nat.le_of_ble_eq_true rfl, Nat.le_of_ble_eq_true rfl, Nat.le_of_ble_eq_true rfl⟩ dX_order_1 rfl rfl (Nat.le_of_ble_eq_true rfl) ?_
  refine v_if_ne (pc := 4) (tgt := 16) dX_order_4 rfl hf (fun hf => ?_) (fun hf => ?_)
  rotate_left
  · refine v_ldc (pc := 16) dX_order_16 kiX_71 ?_
    exact v_iret (pc := 18) dX_order_18 (by decide) (by decide) hf
  refine v_iload_n (i := 2) (pc := 7) dX_order_7 rfl rfl ?_
  refine v_if_lt (pc := 8) (tgt := 16) dX_order_8 rfl hf (fun hf => ?_) (fun hf => ?_)
  · refine v_ldc (pc := 16) dX_order_16 kiX_71 ?_
    exact v_iret (pc := 18) dX_order_18 (by decide) (by decide) hf
  refine v_iload_n (i := 2) (pc := 11) dX_order_11 rfl rfl ?_
  refine v_iconst (pc := 12) (1:Int32) dX_order_12 rfl ?_
  refine v_icmp_le (pc := 13) (tgt := 19) dX_order_13 rfl hf (fun hf => ?_) (fun hf => ?_)
  rotate_left
  · refine v_ldc (pc := 16) dX_order_16 kiX_71 ?_
    exact v_iret (pc := 18) dX_order_18 (by decide) (by decide) hf
  refine v_aload_n (i := 0) (pc := 19) dX_order_19 rfl rfl ?_
  refine v_getR (pc := 20) fgX_59 dX_order_20 hf (fun a3 hf => ?_)
  refine v_iload_n (i := 1) (pc := 23) dX_order_23 rfl rfl ?_
  refine v_aald (pc := 24) (Or.inr (Or.inr rfl)) dX_order_24 hf (fun hf => ?_) (fun a4 hf => ?_)
  · refine v_astoreN_n (i := 3) (pc := 25) (ls' := [some (.ref a_0), some (.int i_1), some (.int i_2), some (.null)]) dX_order_25 rfl (by decide) rfl ?_
    refine v_aloadN_n (i := 3) (pc := 26) dX_order_26 rfl rfl ?_
    refine v_ifnonnullN (pc := 27) dX_order_27 ?_
    refine v_aload_n (i := 0) (pc := 30) dX_order_30 rfl rfl ?_
    refine v_iconst (pc := 31) (1:Int32) dX_order_31 rfl ?_
    obtain ⟨u10, cu10, hf⟩ := bnd hf
    obtain ⟨h7, i8, e9, hf⟩ := bndp hf
    refine v_M1 (pc := 32) (As := [.int (1:Int32)]) (rest := []) lmX_72 cu10 (sX_found e9) ⟨Nat.le_of_ble_eq_true rfl, Nat.le_of_ble_eq_true rfl, Nat.le_of_ble_eq_true rfl, Nat.le_of_ble_eq_true rfl⟩ dX_order_32 rfl rfl (Nat.le_of_ble_eq_true rfl) ?_
    exact v_iret (pc := 35) dX_order_35 (by decide) (by decide) hf
  refine v_astore_n (i := 3) (pc := 25) (ls' := [some (.ref a_0), some (.int i_1), some (.int i_2), some (.ref a4)]) dX_order_25 rfl (by decide) rfl ?_
  refine v_aload_n (i := 3) (pc := 26) dX_order_26 rfl rfl ?_
  refine v_ifnonnull (pc := 27) (tgt := 36) dX_order_27 rfl ?_
  refine v_aload_n (i := 0) (pc := 36) dX_order_36 rfl rfl ?_
  refine v_iload_n (i := 2) (pc := 37) dX_order_37 rfl rfl ?_
  refine v_if_ne (pc := 38) (tgt := 48) dX_order_38 rfl hf (fun hf => ?_) (fun hf => ?_)
  rotate_left
  · refine v_aload_n (i := 3) (pc := 48) dX_order_48 rfl rfl ?_
    refine v_getI (pc := 49) fgX_223 dX_order_49 hf (fun i5 hf => ?_)
    refine v_wk (ls' := [none, none, none, none]) trivial ?_
    exact tX_order_52 n h1 i5 a_0 hf
  refine v_aload_n (i := 3) (pc := 41) dX_order_41 rfl rfl ?_
  refine v_getI (pc := 42) fgX_220 dX_order_42 hf (fun i6 hf => ?_)
  refine v_goto (pc := 45) (tgt := 52) dX_order_45 rfl ?_
  refine v_wk (ls' := [none, none, none, none]) trivial ?_
  exact tX_order_52 n h1 i6 a_0 hf
abbrev rmSh_clearFactor : Room := { frames := 0, cells := 0, slots := 0, locals := 0 }
def bSh_clearFactor_2 (n : Nat) (k2 : (MH × Nat × Int32) → Option MH) (h : MH) (x0 : Nat) (x1 : Int32) : Option MH := ((gfR h x0 [5] 1).bind fun a1 => ((lenA h a1).bind fun i2 => (if i2 ≤ x1 then (some h) else ((gfR h x0 [5] 1).bind fun a3 => ((wrL h a3 x1 (0:Int64)).bind fun h4 => (k2 (h4, x0, (x1 + (1:Int32)))))))))
def fSh_clearFactor_2 (n : Nat) (h : MH) (x0 : Nat) (x1 : Int32) : Option MH := lp (fun n k s => bSh_clearFactor_2 n k s.1 s.2.1 s.2.2) n (h, x0, x1)
set_option maxRecDepth 20000 in
set_option maxHeartbeats 4000000 in
theorem tSh_clearFactor_2 {g : Gh} {h' : MH} (n : Nat) (h : MH) (x0 : Nat) (x1 : Int32) (hf : fSh_clearFactor_2 n h x0 x1 = some h') : V g ySh_clearFactor cSh_clearFactor 2 none rmSh_clearFactor (ZQ g rmSh_clearFactor h' none) 0 0 h 2 [some (.ref x0), some (.int x1)] [] := by
  unfold fSh_clearFactor_2 at hf
  refine lp_ind (P := fun s => V g ySh_clearFactor cSh_clearFactor 2 none rmSh_clearFactor (ZQ g rmSh_clearFactor h' none) 0 0 s.1 2 [some (.ref s.2.1), some (.int s.2.2)] []) (fun n k2 hk2 s hf => ?_) n (h, x0, x1) hf
  obtain ⟨h, x0, x1⟩ := s
  replace hk2 : ∀ (h : MH) (x0 : Nat) (x1 : Int32), k2 (h, x0, x1) = some h' → V g ySh_clearFactor cSh_clearFactor 2 none rmSh_clearFactor (ZQ g rmSh_clearFactor h' none) 0 0 h 2 [some (.ref x0), some (.int x1)] [] := fun h x0 x1 => hk2 (h, x0, x1)
  replace hf : bSh_clearFactor_2 n k2 h x0 x1 = some h' := hf
  change V g ySh_clearFactor cSh_clearFactor 2 none rmSh_clearFactor (ZQ g rmSh_clearFactor h' none) 0 0 h 2 [some (.ref x0), some (.int x1)] []
  unfold bSh_clearFactor_2 at hf
  refine v_iload_n (i := 1) (pc := 2) dSh_clearFactor_2 rfl rfl ?_
  refine v_aload_n (i := 0) (pc := 3) dSh_clearFactor_3 rfl rfl ?_
  refine v_getR (pc := 4) fgSh_9 dSh_clearFactor_4 hf (fun a1 hf => ?_)
  refine v_alen (pc := 7) dSh_clearFactor_7 hf (fun i2 hf => ?_)
  refine v_icmp_ge (pc := 8) (tgt := 24) dSh_clearFactor_8 rfl hf (fun hf => ?_) (fun hf => ?_)
  · exact v_vret (pc := 24) dSh_clearFactor_24 (by decide) (by decide) hf
  refine v_aload_n (i := 0) (pc := 11) dSh_clearFactor_11 rfl rfl ?_
  refine v_getR (pc := 12) fgSh_9 dSh_clearFactor_12 hf (fun a3 hf => ?_)
  refine v_iload_n (i := 1) (pc := 15) dSh_clearFactor_15 rfl rfl ?_
  refine v_lconst (pc := 16) (0:Int64) dSh_clearFactor_16 rfl ?_
  refine v_last (pc := 17) dSh_clearFactor_17 hf (fun h4 hf => ?_)
  refine v_iinc (pc := 18) (v := (x1 + (1:Int32))) (ls' := [some (.ref x0), some (.int (x1 + (1:Int32)))]) dSh_clearFactor_18 rfl rfl (by decide) rfl ?_
  refine v_goto (pc := 21) (tgt := 2) dSh_clearFactor_21 rfl ?_
  refine v_wk (ls' := [some (.ref x0), some (.int (x1 + (1:Int32)))]) ⟨rfl, rfl, trivial⟩ ?_
  exact hk2 h4 x0 (x1 + (1:Int32)) hf
def fSh_clearFactor (n : Nat) (h : MH) (a_0 : Nat) : Option MH := (fSh_clearFactor_2 n h a_0 (0:Int32))
set_option maxRecDepth 20000 in
set_option maxHeartbeats 4000000 in
theorem sSh_clearFactor {g : Gh} {h' : MH} {n : Nat} {h : MH} {a_0 : Nat} (hf : fSh_clearFactor n h a_0 = some h') : Sp g ySh_clearFactor cSh_clearFactor 2 none rmSh_clearFactor h [.ref a_0] h' none := by
  refine sp_of (by decide) (Nat.le_of_ble_eq_true rfl) ?_
  change V g ySh_clearFactor cSh_clearFactor 2 none rmSh_clearFactor (ZQ g rmSh_clearFactor h' none) 0 0 h 0 [some (.ref a_0), none] []
  unfold fSh_clearFactor at hf
  refine v_iconst (pc := 0) (0:Int32) dSh_clearFactor_0 rfl ?_
  refine v_istore_n (i := 1) (pc := 1) (ls' := [some (.ref a_0), some (.int (0:Int32))]) dSh_clearFactor_1 rfl (by decide) rfl ?_
  refine v_wk (ls' := [some (.ref a_0), some (.int (0:Int32))]) ⟨rfl, rfl, trivial⟩ ?_
  exact tSh_clearFactor_2 n h a_0 (0:Int32) hf
abbrev rmSh_addToDiagonal : Room := { frames := 1, cells := 0, slots := 0, locals := 24 }
def bSh_addToDiagonal_3 (n : Nat) (k3 : (MH × Nat × Int32 × Int64 × Int32) → Option MH) (h : MH) (x0 : Nat) (x1 : Int32) (x2 : Int64) (x4 : Int32) : Option MH := (if x1 ≤ x4 then (some h) else ((gfR h x0 [5] 1).bind fun a1 => ((gfR h x0 [5] 0).bind fun a2 => ((gfR h x0 [5] 1).bind fun a3 => ((rdL h a3 ((x4 * (8:Int32)) + x4)).bind fun j4 => ((chk h a2 3).bind fun _ => (bnd2 (fMo_plus h a2 j4 x2) fun h5 j6 => ((wrL h5 a1 ((x4 * (8:Int32)) + x4) j6).bind fun h7 => (k3 (h7, x0, x1, x2, (x4 + (1:Int32))))))))))))
def fSh_addToDiagonal_3 (n : Nat) (h : MH) (x0 : Nat) (x1 : Int32) (x2 : Int64) (x4 : Int32) : Option MH := lp (fun n k s => bSh_addToDiagonal_3 n k s.1 s.2.1 s.2.2.1 s.2.2.2.1 s.2.2.2.2) n (h, x0, x1, x2, x4)
set_option maxRecDepth 20000 in
set_option maxHeartbeats 4000000 in
theorem tSh_addToDiagonal_3 {g : Gh} {h' : MH} (n : Nat) (h : MH) (x0 : Nat) (x1 : Int32) (x2 : Int64) (x4 : Int32) (hf : fSh_addToDiagonal_3 n h x0 x1 x2 x4 = some h') : V g ySh_addToDiagonal cSh_addToDiagonal 6 none rmSh_addToDiagonal (ZQ g rmSh_addToDiagonal h' none) 0 0 h 3 [some (.ref x0), some (.int x1), some (.long x2), none, some (.int x4), none] [] := by
  unfold fSh_addToDiagonal_3 at hf
  refine lp_ind (P := fun s => V g ySh_addToDiagonal cSh_addToDiagonal 6 none rmSh_addToDiagonal (ZQ g rmSh_addToDiagonal h' none) 0 0 s.1 3 [some (.ref s.2.1), some (.int s.2.2.1), some (.long s.2.2.2.1), none, some (.int s.2.2.2.2), none] []) (fun n k3 hk3 s hf => ?_) n (h, x0, x1, x2, x4) hf
  obtain ⟨h, x0, x1, x2, x4⟩ := s
  replace hk3 : ∀ (h : MH) (x0 : Nat) (x1 : Int32) (x2 : Int64) (x4 : Int32), k3 (h, x0, x1, x2, x4) = some h' → V g ySh_addToDiagonal cSh_addToDiagonal 6 none rmSh_addToDiagonal (ZQ g rmSh_addToDiagonal h' none) 0 0 h 3 [some (.ref x0), some (.int x1), some (.long x2), none, some (.int x4), none] [] := fun h x0 x1 x2 x4 => hk3 (h, x0, x1, x2, x4)
  replace hf : bSh_addToDiagonal_3 n k3 h x0 x1 x2 x4 = some h' := hf
  change V g ySh_addToDiagonal cSh_addToDiagonal 6 none rmSh_addToDiagonal (ZQ g rmSh_addToDiagonal h' none) 0 0 h 3 [some (.ref x0), some (.int x1), some (.long x2), none, some (.int x4), none] []
  unfold bSh_addToDiagonal_3 at hf
  refine v_iload (pc := 3) dSh_addToDiagonal_3 rfl ?_
  refine v_iload_n (i := 1) (pc := 5) dSh_addToDiagonal_5 rfl rfl ?_
  refine v_icmp_ge (pc := 6) (tgt := 47) dSh_addToDiagonal_6 rfl hf (fun hf => ?_) (fun hf => ?_)
  · exact v_vret (pc := 47) dSh_addToDiagonal_47 (by decide) (by decide) hf
  refine v_iload (pc := 9) dSh_addToDiagonal_9 rfl ?_
  refine v_bipush (pc := 11) (8:Int32) dSh_addToDiagonal_11 rfl ?_
  refine v_imul (pc := 13) dSh_addToDiagonal_13 ?_
  refine v_iload (pc := 14) dSh_addToDiagonal_14 rfl ?_
  refine v_iadd (pc := 16) dSh_addToDiagonal_16 ?_
  refine v_istore (pc := 17) (ls' := [some (.ref x0), some (.int x1), some (.long x2), none, some (.int x4), some (.int ((x4 * (8:Int32)) + x4))]) dSh_addToDiagonal_17 (by decide) rfl ?_
  refine v_aload_n (i := 0) (pc := 19) dSh_addToDiagonal_19 rfl rfl ?_
  refine v_getR (pc := 20) fgSh_9 dSh_addToDiagonal_20 hf (fun a1 hf => ?_)
  refine v_iload (pc := 23) dSh_addToDiagonal_23 rfl ?_
  refine v_aload_n (i := 0) (pc := 25) dSh_addToDiagonal_25 rfl rfl ?_
  refine v_getR (pc := 26) fgSh_18 dSh_addToDiagonal_26 hf (fun a2 hf => ?_)
  refine v_aload_n (i := 0) (pc := 29) dSh_addToDiagonal_29 rfl rfl ?_
  refine v_getR (pc := 30) fgSh_9 dSh_addToDiagonal_30 hf (fun a3 hf => ?_)
  refine v_iload (pc := 33) dSh_addToDiagonal_33 rfl ?_
  refine v_lald (pc := 35) dSh_addToDiagonal_35 hf (fun j4 hf => ?_)
  refine v_lload_n (i := 2) (pc := 36) dSh_addToDiagonal_36 rfl rfl ?_
  obtain ⟨u9, cu9, hf⟩ := bnd hf
  obtain ⟨h5, j6, e8, hf⟩ := bndp hf
  refine v_M1 (pc := 37) (As := [.long j4, .long x2]) (rest := [.int ((x4 * (8:Int32)) + x4), .ref a1]) lmSh_59 cu9 (sMo_plus e8) ⟨Nat.le_of_ble_eq_true rfl, Nat.le_of_ble_eq_true rfl, Nat.le_of_ble_eq_true rfl, Nat.le_of_ble_eq_true rfl⟩ dSh_addToDiagonal_37 rfl rfl (Nat.le_of_ble_eq_true rfl) ?_
  refine v_last (pc := 40) dSh_addToDiagonal_40 hf (fun h7 hf => ?_)
  refine v_iinc (pc := 41) (v := (x4 + (1:Int32))) (ls' := [some (.ref x0), some (.int x1), some (.long x2), none, some (.int (x4 + (1:Int32))), some (.int ((x4 * (8:Int32)) + x4))]) dSh_addToDiagonal_41 rfl rfl (by decide) rfl ?_
  refine v_goto (pc := 44) (tgt := 3) dSh_addToDiagonal_44 rfl ?_
  refine v_wk (ls' := [some (.ref x0), some (.int x1), some (.long x2), none, some (.int (x4 + (1:Int32))), none]) ⟨rfl, rfl, rfl, rfl, trivial⟩ ?_
  exact hk3 h7 x0 x1 x2 (x4 + (1:Int32)) hf
def fSh_addToDiagonal (n : Nat) (h : MH) (a_0 : Nat) (i_1 : Int32) (j_2 : Int64) : Option MH := (fSh_addToDiagonal_3 n h a_0 i_1 j_2 (0:Int32))
set_option maxRecDepth 20000 in
set_option maxHeartbeats 4000000 in
theorem sSh_addToDiagonal {g : Gh} {h' : MH} {n : Nat} {h : MH} {a_0 : Nat} {i_1 : Int32} {j_2 : Int64} (hf : fSh_addToDiagonal n h a_0 i_1 j_2 = some h') : Sp g ySh_addToDiagonal cSh_addToDiagonal 6 none rmSh_addToDiagonal h [.ref a_0, .int i_1, .long j_2] h' none := by
  refine sp_of (by decide) (Nat.le_of_ble_eq_true rfl) ?_
  change V g ySh_addToDiagonal cSh_addToDiagonal 6 none rmSh_addToDiagonal (ZQ g rmSh_addToDiagonal h' none) 0 0 h 0 [some (.ref a_0), some (.int i_1), some (.long j_2), none, none, none] []
  unfold fSh_addToDiagonal at hf
  refine v_iconst (pc := 0) (0:Int32) dSh_addToDiagonal_0 rfl ?_
  refine v_istore (pc := 1) (ls' := [some (.ref a_0), some (.int i_1), some (.long j_2), none, some (.int (0:Int32)), none]) dSh_addToDiagonal_1 (by decide) rfl ?_
  refine v_wk (ls' := [some (.ref a_0), some (.int i_1), some (.long j_2), none, some (.int (0:Int32)), none]) ⟨rfl, rfl, rfl, rfl, trivial⟩ ?_
  exact tSh_addToDiagonal_3 n h a_0 i_1 j_2 (0:Int32) hf
abbrev rmSh_multiply : Room := { frames := 1, cells := 0, slots := 0, locals := 24 }
def bSh_multiply_26 (k2 : (MH × Nat × Nat × Int32) → Option MH) (k12 : (MH × Nat × Nat × Int32 × Int32) → Option MH) (n : Nat) (k26 : (MH × Nat × Nat × Int32 × Int32 × Int64 × Int32) → Option MH) (h : MH) (x0 : Nat) (x1 : Nat) (x2 : Int32) (x3 : Int32) (x4 : Int64) (x6 : Int32) : Option MH := ((gfI h x1 [7] 0).bind fun i1 => (if i1 ≤ x6 then ((gfR h x0 [5] 2).bind fun a2 => ((wrL h a2 ((x2 * (8:Int32)) + x3) x4).bind fun h3 => (k12 (h3, x0, x1, x2, (x3 + (1:Int32)))))) else ((gfR h x0 [5] 0).bind fun a4 => ((gfR h x0 [5] 0).bind fun a5 => ((chk h x1 7).bind fun _ => (bnd2 (fSg_a h x1 x2 x6) fun h6 j7 => ((gfR h6 x0 [5] 1).bind fun a8 => ((rdL h6 a8 ((x6 * (8:Int32)) + x3)).bind fun j9 => ((chk h6 a5 3).bind fun _ => (bnd2 (fMo_times h6 a5 j7 j9) fun h10 j11 => ((chk h10 a4 3).bind fun _ => (bnd2 (fMo_plus h10 a4 x4 j11) fun h12 j13 => (k26 (h12, x0, x1, x2, x3, j13, (x6 + (1:Int32))))))))))))))))
def fSh_multiply_26 (k2 : (MH × Nat × Nat × Int32) → Option MH) (k12 : (MH × Nat × Nat × Int32 × Int32) → Option MH) (n : Nat) (h : MH) (x0 : Nat) (x1 : Nat) (x2 : Int32) (x3 : Int32) (x4 : Int64) (x6 : Int32) : Option MH := lp (fun n k s => bSh_multiply_26 k2 k12 n k s.1 s.2.1 s.2.2.1 s.2.2.2.1 s.2.2.2.2.1 s.2.2.2.2.2.1 s.2.2.2.2.2.2) n (h, x0, x1, x2, x3, x4, x6)
set_option maxRecDepth 20000 in
set_option maxHeartbeats 4000000 in
theorem tSh_multiply_26 {g : Gh} {h' : MH} {k2 : (MH × Nat × Nat × Int32) → Option MH} {k12 : (MH × Nat × Nat × Int32 × Int32) → Option MH} (hk2 : ∀ (h : MH) (x0 : Nat) (x1 : Nat) (x2 : Int32), k2 (h, x0, x1, x2) = some h' → V g ySh_multiply cSh_multiply 7 none rmSh_multiply (ZQ g rmSh_multiply h' none) 0 0 h 2 [some (.ref x0), some (.ref x1), some (.int x2), none, none, none, none] []) (hk12 : ∀ (h : MH) (x0 : Nat) (x1 : Nat) (x2 : Int32) (x3 : Int32), k12 (h, x0, x1, x2, x3) = some h' → V g ySh_multiply cSh_multiply 7 none rmSh_multiply (ZQ g rmSh_multiply h' none) 0 0 h 12 [some (.ref x0), some (.ref x1), some (.int x2), some (.int x3), none, none, none] []) (n : Nat) (h : MH) (x0 : Nat) (x1 : Nat) (x2 : Int32) (x3 : Int32) (x4 : Int64) (x6 : Int32) (hf : fSh_multiply_26 k2 k12 n h x0 x1 x2 x3 x4 x6 = some h') : V g ySh_multiply cSh_multiply 7 none rmSh_multiply (ZQ g rmSh_multiply h' none) 0 0 h 26 [some (.ref x0), some (.ref x1), some (.int x2), some (.int x3), some (.long x4), none, some (.int x6)] [] := by
  unfold fSh_multiply_26 at hf
  refine lp_ind (P := fun s => V g ySh_multiply cSh_multiply 7 none rmSh_multiply (ZQ g rmSh_multiply h' none) 0 0 s.1 26 [some (.ref s.2.1), some (.ref s.2.2.1), some (.int s.2.2.2.1), some (.int s.2.2.2.2.1), some (.long s.2.2.2.2.2.1), none, some (.int s.2.2.2.2.2.2)] []) (fun n k26 hk26 s hf => ?_) n (h, x0, x1, x2, x3, x4, x6) hf
  obtain ⟨h, x0, x1, x2, x3, x4, x6⟩ := s
  replace hk26 : ∀ (h : MH) (x0 : Nat) (x1 : Nat) (x2 : Int32) (x3 : Int32) (x4 : Int64) (x6 : Int32), k26 (h, x0, x1, x2, x3, x4, x6) = some h' → V g ySh_multiply cSh_multiply 7 none rmSh_multiply (ZQ g rmSh_multiply h' none) 0 0 h 26 [some (.ref x0), some (.ref x1), some (.int x2), some (.int x3), some (.long x4), none, some (.int x6)] [] := fun h x0 x1 x2 x3 x4 x6 => hk26 (h, x0, x1, x2, x3, x4, x6)
  replace hf : bSh_multiply_26 k2 k12 n k26 h x0 x1 x2 x3 x4 x6 = some h' := hf
  change V g ySh_multiply cSh_multiply 7 none rmSh_multiply (ZQ g rmSh_multiply h' none) 0 0 h 26 [some (.ref x0), some (.ref x1), some (.int x2), some (.int x3), some (.long x4), none, some (.int x6)] []
  unfold bSh_multiply_26 at hf
  refine v_iload (pc := 26) dSh_multiply_26 rfl ?_
  refine v_aload_n (i := 1) (pc := 28) dSh_multiply_28 rfl rfl ?_
  refine v_getI (pc := 29) fgSh_22 dSh_multiply_29 hf (fun i1 hf => ?_)
  refine v_icmp_ge (pc := 32) (tgt := 78) dSh_multiply_32 rfl hf (fun hf => ?_) (fun hf => ?_)
  · refine v_aload_n (i := 0) (pc := 78) dSh_multiply_78 rfl rfl ?_
    refine v_getR (pc := 79) fgSh_15 dSh_multiply_79 hf (fun a2 hf => ?_)
    refine v_iload_n (i := 2) (pc := 82) dSh_multiply_82 rfl rfl ?_
    refine v_bipush (pc := 83) (8:Int32) dSh_multiply_83 rfl ?_
    refine v_imul (pc := 85) dSh_multiply_85 ?_
    refine v_iload_n (i := 3) (pc := 86) dSh_multiply_86 rfl rfl ?_
    refine v_iadd (pc := 87) dSh_multiply_87 ?_
    refine v_lload (pc := 88) dSh_multiply_88 rfl ?_
    refine v_last (pc := 90) dSh_multiply_90 hf (fun h3 hf => ?_)
    refine v_iinc (pc := 91) (v := (x3 + (1:Int32))) (ls' := [some (.ref x0), some (.ref x1), some (.int x2), some (.int (x3 + (1:Int32))), some (.long x4), none, some (.int x6)]) dSh_multiply_91 rfl rfl (by decide) rfl ?_
    refine v_goto (pc := 94) (tgt := 12) dSh_multiply_94 rfl ?_
    refine v_wk (ls' := [some (.ref x0), some (.ref x1), some (.int x2), some (.int (x3 + (1:Int32))), none, none, none]) ⟨rfl, rfl, rfl, rfl, trivial⟩ ?_
    exact hk12 h3 x0 x1 x2 (x3 + (1:Int32)) hf
  refine v_aload_n (i := 0) (pc := 35) dSh_multiply_35 rfl rfl ?_
  refine v_getR (pc := 36) fgSh_18 dSh_multiply_36 hf (fun a4 hf => ?_)
  refine v_lload (pc := 39) dSh_multiply_39 rfl ?_
  refine v_aload_n (i := 0) (pc := 41) dSh_multiply_41 rfl rfl ?_
  refine v_getR (pc := 42) fgSh_18 dSh_multiply_42 hf (fun a5 hf => ?_)
  refine v_aload_n (i := 1) (pc := 45) dSh_multiply_45 rfl rfl ?_
  refine v_iload_n (i := 2) (pc := 46) dSh_multiply_46 rfl rfl ?_
  refine v_iload (pc := 47) dSh_multiply_47 rfl ?_
  obtain ⟨u19, cu19, hf⟩ := bnd hf
  obtain ⟨h6, j7, e18, hf⟩ := bndp hf
  refine v_M1 (pc := 49) (As := [.int x2, .int x6]) (rest := [.ref a5, .long x4, .ref a4]) lmSh_62 cu19 (sSg_a e18) ⟨Nat.le_of_ble_eq_true rfl, Nat.le_of_ble_eq_true rfl, Nat.le_of_ble_eq_true rfl, Nat.le_of_ble_eq_true rfl⟩ dSh_multiply_49 rfl rfl (Nat.le_of_ble_eq_true rfl) ?_
  refine v_aload_n (i := 0) (pc := 52) dSh_multiply_52 rfl rfl ?_
  refine v_getR (pc := 53) fgSh_9 dSh_multiply_53 hf (fun a8 hf => ?_)
  refine v_iload (pc := 56) dSh_multiply_56 rfl ?_
  refine v_bipush (pc := 58) (8:Int32) dSh_multiply_58 rfl ?_
  refine v_imul (pc := 60) dSh_multiply_60 ?_
  refine v_iload_n (i := 3) (pc := 61) dSh_multiply_61 rfl rfl ?_
  refine v_iadd (pc := 62) dSh_multiply_62 ?_
  refine v_lald (pc := 63) dSh_multiply_63 hf (fun j9 hf => ?_)
  obtain ⟨u17, cu17, hf⟩ := bnd hf
  obtain ⟨h10, j11, e16, hf⟩ := bndp hf
  refine v_M1 (pc := 64) (As := [.long j7, .long j9]) (rest := [.long x4, .ref a4]) lmSh_53 cu17 (sMo_times e16) ⟨Nat.le_of_ble_eq_true rfl, Nat.le_of_ble_eq_true rfl, Nat.le_of_ble_eq_true rfl, Nat.le_of_ble_eq_true rfl⟩ dSh_multiply_64 rfl rfl (Nat.le_of_ble_eq_true rfl) ?_
  obtain ⟨u15, cu15, hf⟩ := bnd hf
  obtain ⟨h12, j13, e14, hf⟩ := bndp hf
  refine v_M1 (pc := 67) (As := [.long x4, .long j11]) (rest := []) lmSh_59 cu15 (sMo_plus e14) ⟨Nat.le_of_ble_eq_true rfl, Nat.le_of_ble_eq_true rfl, Nat.le_of_ble_eq_true rfl, Nat.le_of_ble_eq_true rfl⟩ dSh_multiply_67 rfl rfl (Nat.le_of_ble_eq_true rfl) ?_
  refine v_lstore (pc := 70) (ls' := [some (.ref x0), some (.ref x1), some (.int x2), some (.int x3), some (.long j13), none, some (.int x6)]) dSh_multiply_70 (by decide) rfl ?_
  refine v_iinc (pc := 72) (v := (x6 + (1:Int32))) (ls' := [some (.ref x0), some (.ref x1), some (.int x2), some (.int x3), some (.long j13), none, some (.int (x6 + (1:Int32)))]) dSh_multiply_72 rfl rfl (by decide) rfl ?_
  refine v_goto (pc := 75) (tgt := 26) dSh_multiply_75 rfl ?_
  refine v_wk (ls' := [some (.ref x0), some (.ref x1), some (.int x2), some (.int x3), some (.long j13), none, some (.int (x6 + (1:Int32)))]) ⟨rfl, rfl, rfl, rfl, rfl, rfl, trivial⟩ ?_
  exact hk26 h12 x0 x1 x2 x3 j13 (x6 + (1:Int32)) hf
def bSh_multiply_12 (k2 : (MH × Nat × Nat × Int32) → Option MH) (n : Nat) (k12 : (MH × Nat × Nat × Int32 × Int32) → Option MH) (h : MH) (x0 : Nat) (x1 : Nat) (x2 : Int32) (x3 : Int32) : Option MH := ((gfI h x1 [7] 0).bind fun i1 => (if i1 ≤ x3 then (k2 (h, x0, x1, (x2 + (1:Int32)))) else (fSh_multiply_26 k2 k12 n h x0 x1 x2 x3 (0:Int64) (0:Int32))))
def fSh_multiply_12 (k2 : (MH × Nat × Nat × Int32) → Option MH) (n : Nat) (h : MH) (x0 : Nat) (x1 : Nat) (x2 : Int32) (x3 : Int32) : Option MH := lp (fun n k s => bSh_multiply_12 k2 n k s.1 s.2.1 s.2.2.1 s.2.2.2.1 s.2.2.2.2) n (h, x0, x1, x2, x3)
set_option maxRecDepth 20000 in
set_option maxHeartbeats 4000000 in
theorem tSh_multiply_12 {g : Gh} {h' : MH} {k2 : (MH × Nat × Nat × Int32) → Option MH} (hk2 : ∀ (h : MH) (x0 : Nat) (x1 : Nat) (x2 : Int32), k2 (h, x0, x1, x2) = some h' → V g ySh_multiply cSh_multiply 7 none rmSh_multiply (ZQ g rmSh_multiply h' none) 0 0 h 2 [some (.ref x0), some (.ref x1), some (.int x2), none, none, none, none] []) (n : Nat) (h : MH) (x0 : Nat) (x1 : Nat) (x2 : Int32) (x3 : Int32) (hf : fSh_multiply_12 k2 n h x0 x1 x2 x3 = some h') : V g ySh_multiply cSh_multiply 7 none rmSh_multiply (ZQ g rmSh_multiply h' none) 0 0 h 12 [some (.ref x0), some (.ref x1), some (.int x2), some (.int x3), none, none, none] [] := by
  unfold fSh_multiply_12 at hf
  refine lp_ind (P := fun s => V g ySh_multiply cSh_multiply 7 none rmSh_multiply (ZQ g rmSh_multiply h' none) 0 0 s.1 12 [some (.ref s.2.1), some (.ref s.2.2.1), some (.int s.2.2.2.1), some (.int s.2.2.2.2), none, none, none] []) (fun n k12 hk12 s hf => ?_) n (h, x0, x1, x2, x3) hf
  obtain ⟨h, x0, x1, x2, x3⟩ := s
  replace hk12 : ∀ (h : MH) (x0 : Nat) (x1 : Nat) (x2 : Int32) (x3 : Int32), k12 (h, x0, x1, x2, x3) = some h' → V g ySh_multiply cSh_multiply 7 none rmSh_multiply (ZQ g rmSh_multiply h' none) 0 0 h 12 [some (.ref x0), some (.ref x1), some (.int x2), some (.int x3), none, none, none] [] := fun h x0 x1 x2 x3 => hk12 (h, x0, x1, x2, x3)
  replace hf : bSh_multiply_12 k2 n k12 h x0 x1 x2 x3 = some h' := hf
  change V g ySh_multiply cSh_multiply 7 none rmSh_multiply (ZQ g rmSh_multiply h' none) 0 0 h 12 [some (.ref x0), some (.ref x1), some (.int x2), some (.int x3), none, none, none] []
  unfold bSh_multiply_12 at hf
  refine v_iload_n (i := 3) (pc := 12) dSh_multiply_12 rfl rfl ?_
  refine v_aload_n (i := 1) (pc := 13) dSh_multiply_13 rfl rfl ?_
  refine v_getI (pc := 14) fgSh_22 dSh_multiply_14 hf (fun i1 hf => ?_)
  refine v_icmp_ge (pc := 17) (tgt := 97) dSh_multiply_17 rfl hf (fun hf => ?_) (fun hf => ?_)
  · refine v_iinc (pc := 97) (v := (x2 + (1:Int32))) (ls' := [some (.ref x0), some (.ref x1), some (.int (x2 + (1:Int32))), some (.int x3), none, none, none]) dSh_multiply_97 rfl rfl (by decide) rfl ?_
    refine v_goto (pc := 100) (tgt := 2) dSh_multiply_100 rfl ?_
    refine v_wk (ls' := [some (.ref x0), some (.ref x1), some (.int (x2 + (1:Int32))), none, none, none, none]) ⟨rfl, rfl, rfl, trivial⟩ ?_
    exact hk2 h x0 x1 (x2 + (1:Int32)) hf
  refine v_lconst (pc := 20) (0:Int64) dSh_multiply_20 rfl ?_
  refine v_lstore (pc := 21) (ls' := [some (.ref x0), some (.ref x1), some (.int x2), some (.int x3), some (.long (0:Int64)), none, none]) dSh_multiply_21 (by decide) rfl ?_
  refine v_iconst (pc := 23) (0:Int32) dSh_multiply_23 rfl ?_
  refine v_istore (pc := 24) (ls' := [some (.ref x0), some (.ref x1), some (.int x2), some (.int x3), some (.long (0:Int64)), none, some (.int (0:Int32))]) dSh_multiply_24 (by decide) rfl ?_
  refine v_wk (ls' := [some (.ref x0), some (.ref x1), some (.int x2), some (.int x3), some (.long (0:Int64)), none, some (.int (0:Int32))]) ⟨rfl, rfl, rfl, rfl, rfl, rfl, trivial⟩ ?_
  exact tSh_multiply_26 hk2 hk12 n h x0 x1 x2 x3 (0:Int64) (0:Int32) hf
def bSh_multiply_2 (n : Nat) (k2 : (MH × Nat × Nat × Int32) → Option MH) (h : MH) (x0 : Nat) (x1 : Nat) (x2 : Int32) : Option MH := ((gfI h x1 [7] 0).bind fun i1 => (if i1 ≤ x2 then (some h) else (fSh_multiply_12 k2 n h x0 x1 x2 (0:Int32))))
def fSh_multiply_2 (n : Nat) (h : MH) (x0 : Nat) (x1 : Nat) (x2 : Int32) : Option MH := lp (fun n k s => bSh_multiply_2 n k s.1 s.2.1 s.2.2.1 s.2.2.2) n (h, x0, x1, x2)
set_option maxRecDepth 20000 in
set_option maxHeartbeats 4000000 in
theorem tSh_multiply_2 {g : Gh} {h' : MH} (n : Nat) (h : MH) (x0 : Nat) (x1 : Nat) (x2 : Int32) (hf : fSh_multiply_2 n h x0 x1 x2 = some h') : V g ySh_multiply cSh_multiply 7 none rmSh_multiply (ZQ g rmSh_multiply h' none) 0 0 h 2 [some (.ref x0), some (.ref x1), some (.int x2), none, none, none, none] [] := by
  unfold fSh_multiply_2 at hf
  refine lp_ind (P := fun s => V g ySh_multiply cSh_multiply 7 none rmSh_multiply (ZQ g rmSh_multiply h' none) 0 0 s.1 2 [some (.ref s.2.1), some (.ref s.2.2.1), some (.int s.2.2.2), none, none, none, none] []) (fun n k2 hk2 s hf => ?_) n (h, x0, x1, x2) hf
  obtain ⟨h, x0, x1, x2⟩ := s
  replace hk2 : ∀ (h : MH) (x0 : Nat) (x1 : Nat) (x2 : Int32), k2 (h, x0, x1, x2) = some h' → V g ySh_multiply cSh_multiply 7 none rmSh_multiply (ZQ g rmSh_multiply h' none) 0 0 h 2 [some (.ref x0), some (.ref x1), some (.int x2), none, none, none, none] [] := fun h x0 x1 x2 => hk2 (h, x0, x1, x2)
  replace hf : bSh_multiply_2 n k2 h x0 x1 x2 = some h' := hf
  change V g ySh_multiply cSh_multiply 7 none rmSh_multiply (ZQ g rmSh_multiply h' none) 0 0 h 2 [some (.ref x0), some (.ref x1), some (.int x2), none, none, none, none] []
  unfold bSh_multiply_2 at hf
  refine v_iload_n (i := 2) (pc := 2) dSh_multiply_2 rfl rfl ?_
  refine v_aload_n (i := 1) (pc := 3) dSh_multiply_3 rfl rfl ?_
  refine v_getI (pc := 4) fgSh_22 dSh_multiply_4 hf (fun i1 hf => ?_)
  refine v_icmp_ge (pc := 7) (tgt := 103) dSh_multiply_7 rfl hf (fun hf => ?_) (fun hf => ?_)
  · exact v_vret (pc := 103) dSh_multiply_103 (by decide) (by decide) hf
  refine v_iconst (pc := 10) (0:Int32) dSh_multiply_10 rfl ?_
  refine v_istore_n (i := 3) (pc := 11) (ls' := [some (.ref x0), some (.ref x1), some (.int x2), some (.int (0:Int32)), none, none, none]) dSh_multiply_11 rfl (by decide) rfl ?_
  refine v_wk (ls' := [some (.ref x0), some (.ref x1), some (.int x2), some (.int (0:Int32)), none, none, none]) ⟨rfl, rfl, rfl, rfl, trivial⟩ ?_
  exact tSh_multiply_12 hk2 n h x0 x1 x2 (0:Int32) hf
def fSh_multiply (n : Nat) (h : MH) (a_0 : Nat) (a_1 : Nat) : Option MH := (fSh_multiply_2 n h a_0 a_1 (0:Int32))
set_option maxRecDepth 20000 in
set_option maxHeartbeats 4000000 in
theorem sSh_multiply {g : Gh} {h' : MH} {n : Nat} {h : MH} {a_0 : Nat} {a_1 : Nat} (hf : fSh_multiply n h a_0 a_1 = some h') : Sp g ySh_multiply cSh_multiply 7 none rmSh_multiply h [.ref a_0, .ref a_1] h' none := by
  refine sp_of (by decide) (Nat.le_of_ble_eq_true rfl) ?_
  change V g ySh_multiply cSh_multiply 7 none rmSh_multiply (ZQ g rmSh_multiply h' none) 0 0 h 0 [some (.ref a_0), some (.ref a_1), none, none, none, none, none] []
  unfold fSh_multiply at hf
  refine v_iconst (pc := 0) (0:Int32) dSh_multiply_0 rfl ?_
  refine v_istore_n (i := 2) (pc := 1) (ls' := [some (.ref a_0), some (.ref a_1), some (.int (0:Int32)), none, none, none, none]) dSh_multiply_1 rfl (by decide) rfl ?_
  refine v_wk (ls' := [some (.ref a_0), some (.ref a_1), some (.int (0:Int32)), none, none, none, none]) ⟨rfl, rfl, rfl, trivial⟩ ?_
  exact tSh_multiply_2 n h a_0 a_1 (0:Int32) hf
abbrev rmSh_diagonalSum : Room := { frames := 1, cells := 0, slots := 0, locals := 24 }
def bSh_diagonalSum_5 (n : Nat) (k5 : (MH × Nat × Int32 × Int64 × Int32) → Option (MH × Int64)) (h : MH) (x0 : Nat) (x1 : Int32) (x2 : Int64) (x4 : Int32) : Option (MH × Int64) := (if x1 ≤ x4 then (some (h, x2)) else ((gfR h x0 [5] 0).bind fun a1 => ((gfR h x0 [5] 2).bind fun a2 => ((rdL h a2 ((x4 * (8:Int32)) + x4)).bind fun j3 => ((chk h a1 3).bind fun _ => (bnd2 (fMo_plus h a1 x2 j3) fun h4 j5 => (k5 (h4, x0, x1, j5, (x4 + (1:Int32))))))))))
def fSh_diagonalSum_5 (n : Nat) (h : MH) (x0 : Nat) (x1 : Int32) (x2 : Int64) (x4 : Int32) : Option (MH × Int64) := lp (fun n k s => bSh_diagonalSum_5 n k s.1 s.2.1 s.2.2.1 s.2.2.2.1 s.2.2.2.2) n (h, x0, x1, x2, x4)
set_option maxRecDepth 20000 in
set_option maxHeartbeats 4000000 in
theorem tSh_diagonalSum_5 {g : Gh} {h' : MH} {r' : Int64} (n : Nat) (h : MH) (x0 : Nat) (x1 : Int32) (x2 : Int64) (x4 : Int32) (hf : fSh_diagonalSum_5 n h x0 x1 x2 x4 = some (h', r')) : V g ySh_diagonalSum cSh_diagonalSum 5 (some .long) rmSh_diagonalSum (ZQ g rmSh_diagonalSum h' (some (.long r'))) 0 0 h 5 [some (.ref x0), some (.int x1), some (.long x2), none, some (.int x4)] [] := by
  unfold fSh_diagonalSum_5 at hf
  refine lp_ind (P := fun s => V g ySh_diagonalSum cSh_diagonalSum 5 (some .long) rmSh_diagonalSum (ZQ g rmSh_diagonalSum h' (some (.long r'))) 0 0 s.1 5 [some (.ref s.2.1), some (.int s.2.2.1), some (.long s.2.2.2.1), none, some (.int s.2.2.2.2)] []) (fun n k5 hk5 s hf => ?_) n (h, x0, x1, x2, x4) hf
  obtain ⟨h, x0, x1, x2, x4⟩ := s
  replace hk5 : ∀ (h : MH) (x0 : Nat) (x1 : Int32) (x2 : Int64) (x4 : Int32), k5 (h, x0, x1, x2, x4) = some (h', r') → V g ySh_diagonalSum cSh_diagonalSum 5 (some .long) rmSh_diagonalSum (ZQ g rmSh_diagonalSum h' (some (.long r'))) 0 0 h 5 [some (.ref x0), some (.int x1), some (.long x2), none, some (.int x4)] [] := fun h x0 x1 x2 x4 => hk5 (h, x0, x1, x2, x4)
  replace hf : bSh_diagonalSum_5 n k5 h x0 x1 x2 x4 = some (h', r') := hf
  change V g ySh_diagonalSum cSh_diagonalSum 5 (some .long) rmSh_diagonalSum (ZQ g rmSh_diagonalSum h' (some (.long r'))) 0 0 h 5 [some (.ref x0), some (.int x1), some (.long x2), none, some (.int x4)] []
  unfold bSh_diagonalSum_5 at hf
  refine v_iload (pc := 5) dSh_diagonalSum_5 rfl ?_
  refine v_iload_n (i := 1) (pc := 7) dSh_diagonalSum_7 rfl rfl ?_
  refine v_icmp_ge (pc := 8) (tgt := 39) dSh_diagonalSum_8 rfl hf (fun hf => ?_) (fun hf => ?_)
  · refine v_lload_n (i := 2) (pc := 39) dSh_diagonalSum_39 rfl rfl ?_
    exact v_lret (pc := 40) dSh_diagonalSum_40 (by decide) (by decide) hf
  refine v_aload_n (i := 0) (pc := 11) dSh_diagonalSum_11 rfl rfl ?_
  refine v_getR (pc := 12) fgSh_18 dSh_diagonalSum_12 hf (fun a1 hf => ?_)
  refine v_lload_n (i := 2) (pc := 15) dSh_diagonalSum_15 rfl rfl ?_
  refine v_aload_n (i := 0) (pc := 16) dSh_diagonalSum_16 rfl rfl ?_
  refine v_getR (pc := 17) fgSh_15 dSh_diagonalSum_17 hf (fun a2 hf => ?_)
  refine v_iload (pc := 20) dSh_diagonalSum_20 rfl ?_
  refine v_bipush (pc := 22) (8:Int32) dSh_diagonalSum_22 rfl ?_
  refine v_imul (pc := 24) dSh_diagonalSum_24 ?_
  refine v_iload (pc := 25) dSh_diagonalSum_25 rfl ?_
  refine v_iadd (pc := 27) dSh_diagonalSum_27 ?_
  refine v_lald (pc := 28) dSh_diagonalSum_28 hf (fun j3 hf => ?_)
  obtain ⟨u7, cu7, hf⟩ := bnd hf
  obtain ⟨h4, j5, e6, hf⟩ := bndp hf
  refine v_M1 (pc := 29) (As := [.long x2, .long j3]) (rest := []) lmSh_59 cu7 (sMo_plus e6) ⟨Nat.le_of_ble_eq_true rfl, Nat.le_of_ble_eq_true rfl, Nat.le_of_ble_eq_true rfl, Nat.le_of_ble_eq_true rfl⟩ dSh_diagonalSum_29 rfl rfl (Nat.le_of_ble_eq_true rfl) ?_
  refine v_lstore_n (i := 2) (pc := 32) (ls' := [some (.ref x0), some (.int x1), some (.long j5), none, some (.int x4)]) dSh_diagonalSum_32 rfl (by decide) rfl ?_
  refine v_iinc (pc := 33) (v := (x4 + (1:Int32))) (ls' := [some (.ref x0), some (.int x1), some (.long j5), none, some (.int (x4 + (1:Int32)))]) dSh_diagonalSum_33 rfl rfl (by decide) rfl ?_
  refine v_goto (pc := 36) (tgt := 5) dSh_diagonalSum_36 rfl ?_
  refine v_wk (ls' := [some (.ref x0), some (.int x1), some (.long j5), none, some (.int (x4 + (1:Int32)))]) ⟨rfl, rfl, rfl, rfl, trivial⟩ ?_
  exact hk5 h4 x0 x1 j5 (x4 + (1:Int32)) hf
def fSh_diagonalSum (n : Nat) (h : MH) (a_0 : Nat) (i_1 : Int32) : Option (MH × Int64) := (fSh_diagonalSum_5 n h a_0 i_1 (0:Int64) (0:Int32))
set_option maxRecDepth 20000 in
set_option maxHeartbeats 4000000 in
theorem sSh_diagonalSum {g : Gh} {h' : MH} {r' : Int64} {n : Nat} {h : MH} {a_0 : Nat} {i_1 : Int32} (hf : fSh_diagonalSum n h a_0 i_1 = some (h', r')) : Sp g ySh_diagonalSum cSh_diagonalSum 5 (some .long) rmSh_diagonalSum h [.ref a_0, .int i_1] h' (some (.long r')) := by
  refine sp_of (by decide) (Nat.le_of_ble_eq_true rfl) ?_
  change V g ySh_diagonalSum cSh_diagonalSum 5 (some .long) rmSh_diagonalSum (ZQ g rmSh_diagonalSum h' (some (.long r'))) 0 0 h 0 [some (.ref a_0), some (.int i_1), none, none, none] []
  unfold fSh_diagonalSum at hf
  refine v_lconst (pc := 0) (0:Int64) dSh_diagonalSum_0 rfl ?_
  refine v_lstore_n (i := 2) (pc := 1) (ls' := [some (.ref a_0), some (.int i_1), some (.long (0:Int64)), none, none]) dSh_diagonalSum_1 rfl (by decide) rfl ?_
  refine v_iconst (pc := 2) (0:Int32) dSh_diagonalSum_2 rfl ?_
  refine v_istore (pc := 3) (ls' := [some (.ref a_0), some (.int i_1), some (.long (0:Int64)), none, some (.int (0:Int32))]) dSh_diagonalSum_3 (by decide) rfl ?_
  refine v_wk (ls' := [some (.ref a_0), some (.int i_1), some (.long (0:Int64)), none, some (.int (0:Int32))]) ⟨rfl, rfl, rfl, rfl, trivial⟩ ?_
  exact tSh_diagonalSum_5 n h a_0 i_1 (0:Int64) (0:Int32) hf
abbrev rmSh_keepProduct : Room := { frames := 1, cells := 0, slots := 0, locals := 26 }
def fSh_keepProduct (h : MH) (a_0 : Nat) : Option MH := ((gfR h a_0 [5] 2).bind fun a1 => ((gfR h a_0 [5] 1).bind fun a2 => ((gfR h a_0 [5] 1).bind fun a3 => ((lenA h a3).bind fun i4 => ((acL h a1 (0:Int32) a2 (0:Int32) i4).bind fun h5 => (some h5))))))
set_option maxRecDepth 20000 in
set_option maxHeartbeats 4000000 in
theorem sSh_keepProduct {g : Gh} {h' : MH} {h : MH} {a_0 : Nat} (hf : fSh_keepProduct h a_0 = some h') : Sp g ySh_keepProduct cSh_keepProduct 1 none rmSh_keepProduct h [.ref a_0] h' none := by
  refine sp_of (by decide) (Nat.le_of_ble_eq_true rfl) ?_
  change V g ySh_keepProduct cSh_keepProduct 1 none rmSh_keepProduct (ZQ g rmSh_keepProduct h' none) 0 0 h 0 [some (.ref a_0)] []
  unfold fSh_keepProduct at hf
  refine v_aload_n (i := 0) (pc := 0) dSh_keepProduct_0 rfl rfl ?_
  refine v_getR (pc := 1) fgSh_15 dSh_keepProduct_1 hf (fun a1 hf => ?_)
  refine v_iconst (pc := 4) (0:Int32) dSh_keepProduct_4 rfl ?_
  refine v_aload_n (i := 0) (pc := 5) dSh_keepProduct_5 rfl rfl ?_
  refine v_getR (pc := 6) fgSh_9 dSh_keepProduct_6 hf (fun a2 hf => ?_)
  refine v_iconst (pc := 9) (0:Int32) dSh_keepProduct_9 rfl ?_
  refine v_aload_n (i := 0) (pc := 10) dSh_keepProduct_10 rfl rfl ?_
  refine v_getR (pc := 11) fgSh_9 dSh_keepProduct_11 hf (fun a3 hf => ?_)
  refine v_alen (pc := 14) dSh_keepProduct_14 hf (fun i4 hf => ?_)
  refine v_acopy (pc := 15) mlSh_66 acN acS acI (by decide) (Nat.le_of_ble_eq_true rfl) dSh_keepProduct_15 hf (fun h5 hf => ?_)
  exact v_vret (pc := 18) dSh_keepProduct_18 (by decide) (by decide) hf
abbrev rmSh_coefficient : Room := { frames := 3, cells := 0, slots := 0, locals := 75 }
def bSh_coefficient_19 (n : Nat) (k19 : (MH × Nat × Nat × Int32 × Int64 × Int32) → Option (MH × Int32)) (h : MH) (x0 : Nat) (x1 : Nat) (x2 : Int32) (x3 : Int64) (x5 : Int32) : Option (MH × Int32) := (if x2 < x5 then (some (h, x3.toInt32)) else ((gfI h x1 [7] 0).bind fun i1 => ((chk h x0 5).bind fun _ => ((fSh_addToDiagonal n h x0 i1 x3).bind fun h2 => ((chk h2 x0 5).bind fun _ => ((fSh_multiply n h2 x0 x1).bind fun h3 => ((gfR h3 x0 [5] 0).bind fun a4 => ((gfR h3 x0 [5] 0).bind fun a5 => ((gfI h3 x1 [7] 0).bind fun i6 => ((chk h3 x0 5).bind fun _ => (bnd2 (fSh_diagonalSum n h3 x0 i6) fun h7 j8 => ((chk h7 a5 3).bind fun _ => (bnd2 (fMo_less h7 a5 (0:Int64) j8) fun h9 j10 => ((gfR h9 x0 [5] 0).bind fun a11 => ((chk h9 a11 3).bind fun _ => (bnd2 (fMo_inverse n h9 a11 x5.toInt64) fun h12 j13 => ((chk h12 a4 3).bind fun _ => (bnd2 (fMo_times h12 a4 j10 j13) fun h14 j15 => ((chk h14 x0 5).bind fun _ => ((fSh_keepProduct h14 x0).bind fun h16 => (k19 (h16, x0, x1, x2, j15, (x5 + (1:Int32))))))))))))))))))))))))
def fSh_coefficient_19 (n : Nat) (h : MH) (x0 : Nat) (x1 : Nat) (x2 : Int32) (x3 : Int64) (x5 : Int32) : Option (MH × Int32) := lp (fun n k s => bSh_coefficient_19 n k s.1 s.2.1 s.2.2.1 s.2.2.2.1 s.2.2.2.2.1 s.2.2.2.2.2) n (h, x0, x1, x2, x3, x5)
set_option maxRecDepth 20000 in
set_option maxHeartbeats 4000000 in
theorem tSh_coefficient_19 {g : Gh} {h' : MH} {r' : Int32} (n : Nat) (h : MH) (x0 : Nat) (x1 : Nat) (x2 : Int32) (x3 : Int64) (x5 : Int32) (hf : fSh_coefficient_19 n h x0 x1 x2 x3 x5 = some (h', r')) : V g ySh_coefficient cSh_coefficient 6 (some .int) rmSh_coefficient (ZQ g rmSh_coefficient h' (some (.int r'))) 0 0 h 19 [some (.ref x0), some (.ref x1), some (.int x2), some (.long x3), none, some (.int x5)] [] := by
  unfold fSh_coefficient_19 at hf
  refine lp_ind (P := fun s => V g ySh_coefficient cSh_coefficient 6 (some .int) rmSh_coefficient (ZQ g rmSh_coefficient h' (some (.int r'))) 0 0 s.1 19 [some (.ref s.2.1), some (.ref s.2.2.1), some (.int s.2.2.2.1), some (.long s.2.2.2.2.1), none, some (.int s.2.2.2.2.2)] []) (fun n k19 hk19 s hf => ?_) n (h, x0, x1, x2, x3, x5) hf
  obtain ⟨h, x0, x1, x2, x3, x5⟩ := s
  replace hk19 : ∀ (h : MH) (x0 : Nat) (x1 : Nat) (x2 : Int32) (x3 : Int64) (x5 : Int32), k19 (h, x0, x1, x2, x3, x5) = some (h', r') → V g ySh_coefficient cSh_coefficient 6 (some .int) rmSh_coefficient (ZQ g rmSh_coefficient h' (some (.int r'))) 0 0 h 19 [some (.ref x0), some (.ref x1), some (.int x2), some (.long x3), none, some (.int x5)] [] := fun h x0 x1 x2 x3 x5 => hk19 (h, x0, x1, x2, x3, x5)
  replace hf : bSh_coefficient_19 n k19 h x0 x1 x2 x3 x5 = some (h', r') := hf
  change V g ySh_coefficient cSh_coefficient 6 (some .int) rmSh_coefficient (ZQ g rmSh_coefficient h' (some (.int r'))) 0 0 h 19 [some (.ref x0), some (.ref x1), some (.int x2), some (.long x3), none, some (.int x5)] []
  unfold bSh_coefficient_19 at hf
  refine v_iload (pc := 19) dSh_coefficient_19 rfl ?_
  refine v_iload_n (i := 2) (pc := 21) dSh_coefficient_21 rfl rfl ?_
  refine v_icmp_gt (pc := 22) (tgt := 83) dSh_coefficient_22 rfl hf (fun hf => ?_) (fun hf => ?_)
  · refine v_lload_n (i := 3) (pc := 83) dSh_coefficient_83 rfl rfl ?_
    refine v_l2i (pc := 84) dSh_coefficient_84 ?_
    exact v_iret (pc := 85) dSh_coefficient_85 (by decide) (by decide) hf
  refine v_aload_n (i := 0) (pc := 25) dSh_coefficient_25 rfl rfl ?_
  refine v_aload_n (i := 1) (pc := 26) dSh_coefficient_26 rfl rfl ?_
  refine v_getI (pc := 27) fgSh_22 dSh_coefficient_27 hf (fun i1 hf => ?_)
  refine v_lload_n (i := 3) (pc := 30) dSh_coefficient_30 rfl rfl ?_
  obtain ⟨u30, cu30, hf⟩ := bnd hf
  obtain ⟨h2, e29, hf⟩ := bnd hf
  refine v_M0 (pc := 31) (As := [.int i1, .long x3]) (rest := []) lmSh_31 cu30 (sSh_addToDiagonal e29) ⟨Nat.le_of_ble_eq_true rfl, Nat.le_of_ble_eq_true rfl, Nat.le_of_ble_eq_true rfl, Nat.le_of_ble_eq_true rfl⟩ dSh_coefficient_31 rfl rfl (Nat.le_of_ble_eq_true rfl) ?_
  refine v_aload_n (i := 0) (pc := 34) dSh_coefficient_34 rfl rfl ?_
  refine v_aload_n (i := 1) (pc := 35) dSh_coefficient_35 rfl rfl ?_
  obtain ⟨u28, cu28, hf⟩ := bnd hf
  obtain ⟨h3, e27, hf⟩ := bnd hf
  refine v_M0 (pc := 36) (As := [.ref x1]) (rest := []) lmSh_35 cu28 (sSh_multiply e27) ⟨Nat.le_of_ble_eq_true rfl, Nat.le_of_ble_eq_true rfl, Nat.le_of_ble_eq_true rfl, Nat.le_of_ble_eq_true rfl⟩ dSh_coefficient_36 rfl rfl (Nat.le_of_ble_eq_true rfl) ?_
  refine v_aload_n (i := 0) (pc := 39) dSh_coefficient_39 rfl rfl ?_
  refine v_getR (pc := 40) fgSh_18 dSh_coefficient_40 hf (fun a4 hf => ?_)
  refine v_aload_n (i := 0) (pc := 43) dSh_coefficient_43 rfl rfl ?_
  refine v_getR (pc := 44) fgSh_18 dSh_coefficient_44 hf (fun a5 hf => ?_)
  refine v_lconst (pc := 47) (0:Int64) dSh_coefficient_47 rfl ?_
  refine v_aload_n (i := 0) (pc := 48) dSh_coefficient_48 rfl rfl ?_
  refine v_aload_n (i := 1) (pc := 49) dSh_coefficient_49 rfl rfl ?_
  refine v_getI (pc := 50) fgSh_22 dSh_coefficient_50 hf (fun i6 hf => ?_)
  obtain ⟨u26, cu26, hf⟩ := bnd hf
  obtain ⟨h7, j8, e25, hf⟩ := bndp hf
  refine v_M1 (pc := 53) (As := [.int i6]) (rest := [.long (0:Int64), .ref a5, .ref a4]) lmSh_39 cu26 (sSh_diagonalSum e25) ⟨Nat.le_of_ble_eq_true rfl, Nat.le_of_ble_eq_true rfl, Nat.le_of_ble_eq_true rfl, Nat.le_of_ble_eq_true rfl⟩ dSh_coefficient_53 rfl rfl (Nat.le_of_ble_eq_true rfl) ?_
  obtain ⟨u24, cu24, hf⟩ := bnd hf
  obtain ⟨h9, j10, e23, hf⟩ := bndp hf
  refine v_M1 (pc := 56) (As := [.long (0:Int64), .long j8]) (rest := [.ref a4]) lmSh_43 cu24 (sMo_less e23) ⟨Nat.le_of_ble_eq_true rfl, Nat.le_of_ble_eq_true rfl, Nat.le_of_ble_eq_true rfl, Nat.le_of_ble_eq_true rfl⟩ dSh_coefficient_56 rfl rfl (Nat.le_of_ble_eq_true rfl) ?_
  refine v_aload_n (i := 0) (pc := 59) dSh_coefficient_59 rfl rfl ?_
  refine v_getR (pc := 60) fgSh_18 dSh_coefficient_60 hf (fun a11 hf => ?_)
  refine v_iload (pc := 63) dSh_coefficient_63 rfl ?_
  refine v_i2l (pc := 65) dSh_coefficient_65 ?_
  obtain ⟨u22, cu22, hf⟩ := bnd hf
  obtain ⟨h12, j13, e21, hf⟩ := bndp hf
  refine v_M1 (pc := 66) (As := [.long x5.toInt64]) (rest := [.long j10, .ref a4]) lmSh_49 cu22 (sMo_inverse e21) ⟨Nat.le_of_ble_eq_true rfl, Nat.le_of_ble_eq_true rfl, Nat.le_of_ble_eq_true rfl, Nat.le_of_ble_eq_true rfl⟩ dSh_coefficient_66 rfl rfl (Nat.le_of_ble_eq_true rfl) ?_
  obtain ⟨u20, cu20, hf⟩ := bnd hf
  obtain ⟨h14, j15, e19, hf⟩ := bndp hf
  refine v_M1 (pc := 69) (As := [.long j10, .long j13]) (rest := []) lmSh_53 cu20 (sMo_times e19) ⟨Nat.le_of_ble_eq_true rfl, Nat.le_of_ble_eq_true rfl, Nat.le_of_ble_eq_true rfl, Nat.le_of_ble_eq_true rfl⟩ dSh_coefficient_69 rfl rfl (Nat.le_of_ble_eq_true rfl) ?_
  refine v_lstore_n (i := 3) (pc := 72) (ls' := [some (.ref x0), some (.ref x1), some (.int x2), some (.long j15), none, some (.int x5)]) dSh_coefficient_72 rfl (by decide) rfl ?_
  refine v_aload_n (i := 0) (pc := 73) dSh_coefficient_73 rfl rfl ?_
  obtain ⟨u18, cu18, hf⟩ := bnd hf
  obtain ⟨h16, e17, hf⟩ := bnd hf
  refine v_M0 (pc := 74) (As := []) (rest := []) lmSh_56 cu18 (sSh_keepProduct e17) ⟨Nat.le_of_ble_eq_true rfl, Nat.le_of_ble_eq_true rfl, Nat.le_of_ble_eq_true rfl, Nat.le_of_ble_eq_true rfl⟩ dSh_coefficient_74 rfl rfl (Nat.le_of_ble_eq_true rfl) ?_
  refine v_iinc (pc := 77) (v := (x5 + (1:Int32))) (ls' := [some (.ref x0), some (.ref x1), some (.int x2), some (.long j15), none, some (.int (x5 + (1:Int32)))]) dSh_coefficient_77 rfl rfl (by decide) rfl ?_
  refine v_goto (pc := 80) (tgt := 19) dSh_coefficient_80 rfl ?_
  refine v_wk (ls' := [some (.ref x0), some (.ref x1), some (.int x2), some (.long j15), none, some (.int (x5 + (1:Int32)))]) ⟨rfl, rfl, rfl, rfl, rfl, trivial⟩ ?_
  exact hk19 h16 x0 x1 x2 j15 (x5 + (1:Int32)) hf
def fSh_coefficient (n : Nat) (h : MH) (a_0 : Nat) (a_1 : Nat) (i_2 : Int32) : Option (MH × Int32) := ((gfI h a_1 [7] 0).bind fun i1 => (if i_2 ≤ i1 then ((chk h a_0 5).bind fun _ => ((fSh_clearFactor n h a_0).bind fun h2 => (fSh_coefficient_19 n h2 a_0 a_1 i_2 (1:Int64) (1:Int32)))) else (some (h, (0:Int32)))))
set_option maxRecDepth 20000 in
set_option maxHeartbeats 4000000 in
theorem sSh_coefficient {g : Gh} {h' : MH} {r' : Int32} {n : Nat} {h : MH} {a_0 : Nat} {a_1 : Nat} {i_2 : Int32} (hf : fSh_coefficient n h a_0 a_1 i_2 = some (h', r')) : Sp g ySh_coefficient cSh_coefficient 6 (some .int) rmSh_coefficient h [.ref a_0, .ref a_1, .int i_2] h' (some (.int r')) := by
  refine sp_of (by decide) (Nat.le_of_ble_eq_true rfl) ?_
  change V g ySh_coefficient cSh_coefficient 6 (some .int) rmSh_coefficient (ZQ g rmSh_coefficient h' (some (.int r'))) 0 0 h 0 [some (.ref a_0), some (.ref a_1), some (.int i_2), none, none, none] []
  unfold fSh_coefficient at hf
  refine v_iload_n (i := 2) (pc := 0) dSh_coefficient_0 rfl rfl ?_
  refine v_aload_n (i := 1) (pc := 1) dSh_coefficient_1 rfl rfl ?_
  refine v_getI (pc := 2) fgSh_22 dSh_coefficient_2 hf (fun i1 hf => ?_)
  refine v_icmp_le (pc := 5) (tgt := 10) dSh_coefficient_5 rfl hf (fun hf => ?_) (fun hf => ?_)
  rotate_left
  · refine v_iconst (pc := 8) (0:Int32) dSh_coefficient_8 rfl ?_
    exact v_iret (pc := 9) dSh_coefficient_9 (by decide) (by decide) hf
  refine v_lconst (pc := 10) (1:Int64) dSh_coefficient_10 rfl ?_
  refine v_lstore_n (i := 3) (pc := 11) (ls' := [some (.ref a_0), some (.ref a_1), some (.int i_2), some (.long (1:Int64)), none, none]) dSh_coefficient_11 rfl (by decide) rfl ?_
  refine v_aload_n (i := 0) (pc := 12) dSh_coefficient_12 rfl rfl ?_
  obtain ⟨u4, cu4, hf⟩ := bnd hf
  obtain ⟨h2, e3, hf⟩ := bnd hf
  refine v_M0 (pc := 13) (As := []) (rest := []) lmSh_28 cu4 (sSh_clearFactor e3) ⟨Nat.le_of_ble_eq_true rfl, Nat.le_of_ble_eq_true rfl, Nat.le_of_ble_eq_true rfl, Nat.le_of_ble_eq_true rfl⟩ dSh_coefficient_13 rfl rfl (Nat.le_of_ble_eq_true rfl) ?_
  refine v_iconst (pc := 16) (1:Int32) dSh_coefficient_16 rfl ?_
  refine v_istore (pc := 17) (ls' := [some (.ref a_0), some (.ref a_1), some (.int i_2), some (.long (1:Int64)), none, some (.int (1:Int32))]) dSh_coefficient_17 (by decide) rfl ?_
  refine v_wk (ls' := [some (.ref a_0), some (.ref a_1), some (.int i_2), some (.long (1:Int64)), none, some (.int (1:Int32))]) ⟨rfl, rfl, rfl, rfl, rfl, trivial⟩ ?_
  exact tSh_coefficient_19 n h2 a_0 a_1 i_2 (1:Int64) (1:Int32) hf
abbrev rmX_share : Room := { frames := 4, cells := 2, slots := 74, locals := 100 }
def fX_share_74 (n : Nat) (h : MH) (s0 : Nat) (s1 : Nat) (s2 : Nat) (x3 : Int32) : Option (MH × Int32) := ((chk h s1 5).bind fun _ => (bnd2 (fSh_coefficient n h s1 s0 x3) fun h1 i2 => ((chk h1 s2 11).bind fun _ => (bnd2 (fX_well h1 s2 i2) fun h3 i4 => (some (h3, i4))))))
set_option maxRecDepth 20000 in
set_option maxHeartbeats 4000000 in
theorem tX_share_74 {g : Gh} {h' : MH} {r' : Int32} (n : Nat) (h : MH) (s0 : Nat) (s1 : Nat) (s2 : Nat) (x3 : Int32) (hf : fX_share_74 n h s0 s1 s2 x3 = some (h', r')) : V g yX_share cX_share 5 (some .int) rmX_share (ZQ g rmX_share h' (some (.int r'))) 2 74 h 74 [none, none, none, some (.int x3), none] [.ref s0, .ref s1, .ref s2] := by
  unfold fX_share_74 at hf
  refine v_iload_n (i := 3) (pc := 74) dX_share_74 rfl rfl ?_
  obtain ⟨u8, cu8, hf⟩ := bnd hf
  obtain ⟨h1, i2, e7, hf⟩ := bndp hf
  refine v_M1 (pc := 75) (As := [.ref s0, .int x3]) (rest := [.ref s2]) lmX_226 cu8 (sSh_coefficient e7) ⟨Nat.le_of_ble_eq_true rfl, Nat.le_of_ble_eq_true rfl, Nat.le_of_ble_eq_true rfl, Nat.le_of_ble_eq_true rfl⟩ dX_share_75 rfl rfl (Nat.le_of_ble_eq_true rfl) ?_
  obtain ⟨u6, cu6, hf⟩ := bnd hf
  obtain ⟨h3, i4, e5, hf⟩ := bndp hf
  refine v_M1 (pc := 78) (As := [.int i2]) (rest := []) lmX_80 cu6 (sX_well e5) ⟨Nat.le_of_ble_eq_true rfl, Nat.le_of_ble_eq_true rfl, Nat.le_of_ble_eq_true rfl, Nat.le_of_ble_eq_true rfl⟩ dX_share_78 rfl rfl (Nat.le_of_ble_eq_true rfl) ?_
  exact v_iret (pc := 81) dX_share_81 (by decide) (by decide) hf
def fX_share (n : Nat) (h : MH) (a_0 : Nat) (i_1 : Int32) (i_2 : Int32) (i_3 : Int32) : Option (MH × Int32) := (bnd2 (fX_noPlace n h i_1) fun h1 i2 => (if i2 = (0:Int32) then (if i_2 < (0:Int32) then (some (h1, (-1000001:Int32))) else (if (1:Int32) < i_2 then (some (h1, (-1000001:Int32))) else (if i_3 < (0:Int32) then (some (h1, (-1000001:Int32))) else (if i_3 ≤ (8:Int32) then ((gfR h1 a_0 [11] 6).bind fun a3 => (rdRn h1 a3 4 i_1 ((chk h1 a_0 11).bind fun _ => (bnd2 (fX_found h1 a_0 (1:Int32)) fun h12 i13 => (some (h12, i13)))) fun a4 => ((gfR h1 a_0 [11] 3).bind fun a5 => (if i_2 = (0:Int32) then ((gfR h1 a4 [8, 1, 2, 4] 0).bind fun a7 => ((chk h1 a_0 11).bind fun _ => (bnd2 (fX_undone n h1 a_0 a7) fun h8 a9 => (fX_share_74 n h8 a9 a5 a_0 i_3)))) else ((gfR h1 a4 [8, 1, 2, 4] 0).bind fun a6 => (fX_share_74 n h1 a6 a5 a_0 i_3)))))) else (some (h1, (-1000001:Int32))))))) else (some (h1, (-1000001:Int32)))))
set_option maxRecDepth 20000 in
set_option maxHeartbeats 4000000 in
theorem sX_share {g : Gh} {h' : MH} {r' : Int32} {n : Nat} {h : MH} {a_0 : Nat} {i_1 : Int32} {i_2 : Int32} {i_3 : Int32} (hf : fX_share n h a_0 i_1 i_2 i_3 = some (h', r')) : Sp g yX_share cX_share 5 (some .int) rmX_share h [.ref a_0, .int i_1, .int i_2, .int i_3] h' (some (.int r')) := by
  refine sp_of (by decide) (Nat.le_of_ble_eq_true rfl) ?_
  change V g yX_share cX_share 5 (some .int) rmX_share (ZQ g rmX_share h' (some (.int r'))) 0 0 h 0 [some (.ref a_0), some (.int i_1), some (.int i_2), some (.int i_3), none] []
  unfold fX_share at hf
  refine v_iload_n (i := 1) (pc := 0) dX_share_0 rfl rfl ?_
  obtain ⟨h1, i2, e16, hf⟩ := bndp hf
  refine v_S1 (pc := 1) (As := [.int i_1]) (rest := []) lsX_143 (sX_noPlace e16) ⟨Nat.le_of_ble_eq_true rfl, Nat.le_of_ble_eq_true rfl, Nat.le_of_ble_eq_true rfl, Nat.le_of_ble_eq_true rfl⟩ dX_share_1 rfl rfl (Nat.le_of_ble_eq_true rfl) ?_
  refine v_if_ne (pc := 4) (tgt := 26) dX_share_4 rfl hf (fun hf => ?_) (fun hf => ?_)
  rotate_left
  · refine v_ldc (pc := 26) dX_share_26 kiX_71 ?_
    exact v_iret (pc := 28) dX_share_28 (by decide) (by decide) hf
  refine v_iload_n (i := 2) (pc := 7) dX_share_7 rfl rfl ?_
  refine v_if_lt (pc := 8) (tgt := 26) dX_share_8 rfl hf (fun hf => ?_) (fun hf => ?_)
  · refine v_ldc (pc := 26) dX_share_26 kiX_71 ?_
    exact v_iret (pc := 28) dX_share_28 (by decide) (by decide) hf
  refine v_iload_n (i := 2) (pc := 11) dX_share_11 rfl rfl ?_
  refine v_iconst (pc := 12) (1:Int32) dX_share_12 rfl ?_
  refine v_icmp_gt (pc := 13) (tgt := 26) dX_share_13 rfl hf (fun hf => ?_) (fun hf => ?_)
  · refine v_ldc (pc := 26) dX_share_26 kiX_71 ?_
    exact v_iret (pc := 28) dX_share_28 (by decide) (by decide) hf
  refine v_iload_n (i := 3) (pc := 16) dX_share_16 rfl rfl ?_
  refine v_if_lt (pc := 17) (tgt := 26) dX_share_17 rfl hf (fun hf => ?_) (fun hf => ?_)
  · refine v_ldc (pc := 26) dX_share_26 kiX_71 ?_
    exact v_iret (pc := 28) dX_share_28 (by decide) (by decide) hf
  refine v_iload_n (i := 3) (pc := 20) dX_share_20 rfl rfl ?_
  refine v_bipush (pc := 21) (8:Int32) dX_share_21 rfl ?_
  refine v_icmp_le (pc := 23) (tgt := 29) dX_share_23 rfl hf (fun hf => ?_) (fun hf => ?_)
  rotate_left
  · refine v_ldc (pc := 26) dX_share_26 kiX_71 ?_
    exact v_iret (pc := 28) dX_share_28 (by decide) (by decide) hf
  refine v_aload_n (i := 0) (pc := 29) dX_share_29 rfl rfl ?_
  refine v_getR (pc := 30) fgX_59 dX_share_30 hf (fun a3 hf => ?_)
  refine v_iload_n (i := 1) (pc := 33) dX_share_33 rfl rfl ?_
  refine v_aald (pc := 34) (Or.inr (Or.inr rfl)) dX_share_34 hf (fun hf => ?_) (fun a4 hf => ?_)
  · refine v_astoreN (pc := 35) (ls' := [some (.ref a_0), some (.int i_1), some (.int i_2), some (.int i_3), some (.null)]) dX_share_35 (by decide) rfl ?_
    refine v_aloadN (pc := 37) dX_share_37 rfl ?_
    refine v_ifnonnullN (pc := 39) dX_share_39 ?_
    refine v_aload_n (i := 0) (pc := 42) dX_share_42 rfl rfl ?_
    refine v_iconst (pc := 43) (1:Int32) dX_share_43 rfl ?_
    obtain ⟨u15, cu15, hf⟩ := bnd hf
    obtain ⟨h12, i13, e14, hf⟩ := bndp hf
    refine v_M1 (pc := 44) (As := [.int (1:Int32)]) (rest := []) lmX_72 cu15 (sX_found e14) ⟨Nat.le_of_ble_eq_true rfl, Nat.le_of_ble_eq_true rfl, Nat.le_of_ble_eq_true rfl, Nat.le_of_ble_eq_true rfl⟩ dX_share_44 rfl rfl (Nat.le_of_ble_eq_true rfl) ?_
    exact v_iret (pc := 47) dX_share_47 (by decide) (by decide) hf
  refine v_astore (pc := 35) (ls' := [some (.ref a_0), some (.int i_1), some (.int i_2), some (.int i_3), some (.ref a4)]) dX_share_35 (by decide) rfl ?_
  refine v_aload (pc := 37) dX_share_37 rfl ?_
  refine v_ifnonnull (pc := 39) (tgt := 48) dX_share_39 rfl ?_
  refine v_aload_n (i := 0) (pc := 48) dX_share_48 rfl rfl ?_
  refine v_aload_n (i := 0) (pc := 49) dX_share_49 rfl rfl ?_
  refine v_getR (pc := 50) fgX_39 dX_share_50 hf (fun a5 hf => ?_)
  refine v_iload_n (i := 2) (pc := 53) dX_share_53 rfl rfl ?_
  refine v_if_ne (pc := 54) (tgt := 69) dX_share_54 rfl hf (fun hf => ?_) (fun hf => ?_)
  rotate_left
  · refine v_aload (pc := 69) dX_share_69 rfl ?_
    refine v_getR (pc := 71) fgX_160 dX_share_71 hf (fun a6 hf => ?_)
    refine v_widen (ce' := 2) (sl' := 74) (by decide) (by decide) ?_
    refine v_wk (ls' := [none, none, none, some (.int i_3), none]) ⟨rfl, trivial⟩ ?_
    exact tX_share_74 n h1 a6 a5 a_0 i_3 hf
  refine v_aload_n (i := 0) (pc := 57) dX_share_57 rfl rfl ?_
  refine v_aload (pc := 58) dX_share_58 rfl ?_
  refine v_getR (pc := 60) fgX_160 dX_share_60 hf (fun a7 hf => ?_)
  obtain ⟨u11, cu11, hf⟩ := bnd hf
  obtain ⟨h8, a9, e10, hf⟩ := bndp hf
  refine v_M1 (pc := 63) (As := [.ref a7]) (rest := [.ref a5, .ref a_0]) lmX_172 cu11 (sX_undone e10) ⟨Nat.le_of_ble_eq_true rfl, Nat.le_of_ble_eq_true rfl, Nat.le_of_ble_eq_true rfl, Nat.le_of_ble_eq_true rfl⟩ dX_share_63 rfl rfl (Nat.le_of_ble_eq_true rfl) ?_
  refine v_goto (pc := 66) (tgt := 74) dX_share_66 rfl ?_
  refine v_wk (ls' := [none, none, none, some (.int i_3), none]) ⟨rfl, trivial⟩ ?_
  exact tX_share_74 n h8 a9 a5 a_0 i_3 hf
abbrev rmX_rowSum : Room := { frames := 1, cells := 0, slots := 0, locals := 24 }
def bX_rowSum_5 (n : Nat) (k5 : (MH × Nat × Nat × Int32 × Int64 × Int32) → Option (MH × Int64)) (h : MH) (x0 : Nat) (x1 : Nat) (x2 : Int32) (x3 : Int64) (x5 : Int32) : Option (MH × Int64) := ((gfI h x1 [7] 0).bind fun i1 => (if i1 ≤ x5 then (some (h, x3)) else ((gfR h x0 [11] 0).bind fun a2 => ((chk h x1 7).bind fun _ => (bnd2 (fSg_a h x1 x2 x5) fun h3 j4 => ((chk h3 a2 3).bind fun _ => (bnd2 (fMo_plus h3 a2 x3 j4) fun h5 j6 => (k5 (h5, x0, x1, x2, j6, (x5 + (1:Int32)))))))))))
def fX_rowSum_5 (n : Nat) (h : MH) (x0 : Nat) (x1 : Nat) (x2 : Int32) (x3 : Int64) (x5 : Int32) : Option (MH × Int64) := lp (fun n k s => bX_rowSum_5 n k s.1 s.2.1 s.2.2.1 s.2.2.2.1 s.2.2.2.2.1 s.2.2.2.2.2) n (h, x0, x1, x2, x3, x5)
set_option maxRecDepth 20000 in
set_option maxHeartbeats 4000000 in
theorem tX_rowSum_5 {g : Gh} {h' : MH} {r' : Int64} (n : Nat) (h : MH) (x0 : Nat) (x1 : Nat) (x2 : Int32) (x3 : Int64) (x5 : Int32) (hf : fX_rowSum_5 n h x0 x1 x2 x3 x5 = some (h', r')) : V g yX_rowSum cX_rowSum 6 (some .long) rmX_rowSum (ZQ g rmX_rowSum h' (some (.long r'))) 0 0 h 5 [some (.ref x0), some (.ref x1), some (.int x2), some (.long x3), none, some (.int x5)] [] := by
  unfold fX_rowSum_5 at hf
  refine lp_ind (P := fun s => V g yX_rowSum cX_rowSum 6 (some .long) rmX_rowSum (ZQ g rmX_rowSum h' (some (.long r'))) 0 0 s.1 5 [some (.ref s.2.1), some (.ref s.2.2.1), some (.int s.2.2.2.1), some (.long s.2.2.2.2.1), none, some (.int s.2.2.2.2.2)] []) (fun n k5 hk5 s hf => ?_) n (h, x0, x1, x2, x3, x5) hf
  obtain ⟨h, x0, x1, x2, x3, x5⟩ := s
  replace hk5 : ∀ (h : MH) (x0 : Nat) (x1 : Nat) (x2 : Int32) (x3 : Int64) (x5 : Int32), k5 (h, x0, x1, x2, x3, x5) = some (h', r') → V g yX_rowSum cX_rowSum 6 (some .long) rmX_rowSum (ZQ g rmX_rowSum h' (some (.long r'))) 0 0 h 5 [some (.ref x0), some (.ref x1), some (.int x2), some (.long x3), none, some (.int x5)] [] := fun h x0 x1 x2 x3 x5 => hk5 (h, x0, x1, x2, x3, x5)
  replace hf : bX_rowSum_5 n k5 h x0 x1 x2 x3 x5 = some (h', r') := hf
  change V g yX_rowSum cX_rowSum 6 (some .long) rmX_rowSum (ZQ g rmX_rowSum h' (some (.long r'))) 0 0 h 5 [some (.ref x0), some (.ref x1), some (.int x2), some (.long x3), none, some (.int x5)] []
  unfold bX_rowSum_5 at hf
  refine v_iload (pc := 5) dX_rowSum_5 rfl ?_
  refine v_aload_n (i := 1) (pc := 7) dX_rowSum_7 rfl rfl ?_
  refine v_getI (pc := 8) fgX_164 dX_rowSum_8 hf (fun i1 hf => ?_)
  refine v_icmp_ge (pc := 11) (tgt := 36) dX_rowSum_11 rfl hf (fun hf => ?_) (fun hf => ?_)
  · refine v_lload_n (i := 3) (pc := 36) dX_rowSum_36 rfl rfl ?_
    exact v_lret (pc := 37) dX_rowSum_37 (by decide) (by decide) hf
  refine v_aload_n (i := 0) (pc := 14) dX_rowSum_14 rfl rfl ?_
  refine v_getR (pc := 15) fgX_12 dX_rowSum_15 hf (fun a2 hf => ?_)
  refine v_lload_n (i := 3) (pc := 18) dX_rowSum_18 rfl rfl ?_
  refine v_aload_n (i := 1) (pc := 19) dX_rowSum_19 rfl rfl ?_
  refine v_iload_n (i := 2) (pc := 20) dX_rowSum_20 rfl rfl ?_
  refine v_iload (pc := 21) dX_rowSum_21 rfl ?_
  obtain ⟨u10, cu10, hf⟩ := bnd hf
  obtain ⟨h3, j4, e9, hf⟩ := bndp hf
  refine v_M1 (pc := 23) (As := [.int x2, .int x5]) (rest := [.long x3, .ref a2]) lmX_191 cu10 (sSg_a e9) ⟨Nat.le_of_ble_eq_true rfl, Nat.le_of_ble_eq_true rfl, Nat.le_of_ble_eq_true rfl, Nat.le_of_ble_eq_true rfl⟩ dX_rowSum_23 rfl rfl (Nat.le_of_ble_eq_true rfl) ?_
  obtain ⟨u8, cu8, hf⟩ := bnd hf
  obtain ⟨h5, j6, e7, hf⟩ := bndp hf
  refine v_M1 (pc := 26) (As := [.long x3, .long j4]) (rest := []) lmX_297 cu8 (sMo_plus e7) ⟨Nat.le_of_ble_eq_true rfl, Nat.le_of_ble_eq_true rfl, Nat.le_of_ble_eq_true rfl, Nat.le_of_ble_eq_true rfl⟩ dX_rowSum_26 rfl rfl (Nat.le_of_ble_eq_true rfl) ?_
  refine v_lstore_n (i := 3) (pc := 29) (ls' := [some (.ref x0), some (.ref x1), some (.int x2), some (.long j6), none, some (.int x5)]) dX_rowSum_29 rfl (by decide) rfl ?_
  refine v_iinc (pc := 30) (v := (x5 + (1:Int32))) (ls' := [some (.ref x0), some (.ref x1), some (.int x2), some (.long j6), none, some (.int (x5 + (1:Int32)))]) dX_rowSum_30 rfl rfl (by decide) rfl ?_
  refine v_goto (pc := 33) (tgt := 5) dX_rowSum_33 rfl ?_
  refine v_wk (ls' := [some (.ref x0), some (.ref x1), some (.int x2), some (.long j6), none, some (.int (x5 + (1:Int32)))]) ⟨rfl, rfl, rfl, rfl, rfl, trivial⟩ ?_
  exact hk5 h5 x0 x1 x2 j6 (x5 + (1:Int32)) hf
def fX_rowSum (n : Nat) (h : MH) (a_0 : Nat) (a_1 : Nat) (i_2 : Int32) : Option (MH × Int64) := (fX_rowSum_5 n h a_0 a_1 i_2 (0:Int64) (0:Int32))
set_option maxRecDepth 20000 in
set_option maxHeartbeats 4000000 in
theorem sX_rowSum {g : Gh} {h' : MH} {r' : Int64} {n : Nat} {h : MH} {a_0 : Nat} {a_1 : Nat} {i_2 : Int32} (hf : fX_rowSum n h a_0 a_1 i_2 = some (h', r')) : Sp g yX_rowSum cX_rowSum 6 (some .long) rmX_rowSum h [.ref a_0, .ref a_1, .int i_2] h' (some (.long r')) := by
  refine sp_of (by decide) (Nat.le_of_ble_eq_true rfl) ?_
  change V g yX_rowSum cX_rowSum 6 (some .long) rmX_rowSum (ZQ g rmX_rowSum h' (some (.long r'))) 0 0 h 0 [some (.ref a_0), some (.ref a_1), some (.int i_2), none, none, none] []
  unfold fX_rowSum at hf
  refine v_lconst (pc := 0) (0:Int64) dX_rowSum_0 rfl ?_
  refine v_lstore_n (i := 3) (pc := 1) (ls' := [some (.ref a_0), some (.ref a_1), some (.int i_2), some (.long (0:Int64)), none, none]) dX_rowSum_1 rfl (by decide) rfl ?_
  refine v_iconst (pc := 2) (0:Int32) dX_rowSum_2 rfl ?_
  refine v_istore (pc := 3) (ls' := [some (.ref a_0), some (.ref a_1), some (.int i_2), some (.long (0:Int64)), none, some (.int (0:Int32))]) dX_rowSum_3 (by decide) rfl ?_
  refine v_wk (ls' := [some (.ref a_0), some (.ref a_1), some (.int i_2), some (.long (0:Int64)), none, some (.int (0:Int32))]) ⟨rfl, rfl, rfl, rfl, rfl, trivial⟩ ?_
  exact tX_rowSum_5 n h a_0 a_1 i_2 (0:Int64) (0:Int32) hf
abbrev rmX_ridden : Room := { frames := 2, cells := 0, slots := 0, locals := 53 }
def bX_ridden_63 (k51 : (MH × Nat × Nat × Int32 × Int32 × Int32 × Int64 × Int64 × Int32) → Option (MH × Int64)) (n : Nat) (k63 : (MH × Nat × Nat × Int32 × Int32 × Int32 × Int64 × Int64 × Int32 × Int64 × Int32) → Option (MH × Int64)) (h : MH) (x0 : Nat) (x1 : Nat) (x2 : Int32) (x3 : Int32) (x4 : Int32) (x5 : Int64) (x7 : Int64) (x9 : Int32) (x10 : Int64) (x12 : Int32) : Option (MH × Int64) := ((gfI h x1 [7] 0).bind fun i1 => (if i1 ≤ x12 then ((gfR h x0 [11] 0).bind fun a2 => ((gfR h x0 [11] 0).bind fun a3 => ((chk h a3 3).bind fun _ => (bnd2 (fMo_times h a3 x4.toInt64 x10) fun h4 j5 => ((chk h4 a2 3).bind fun _ => (bnd2 (fMo_plus h4 a2 x7 j5) fun h6 j7 => ((gfR h6 x0 [11] 0).bind fun a8 => ((chk h6 a8 3).bind fun _ => (bnd2 (fMo_plus h6 a8 x5 x4.toInt64) fun h9 j10 => (k51 (h9, x0, x1, x2, x3, x4, j10, j7, (x9 + (1:Int32))))))))))))) else ((gfR h x0 [11] 0).bind fun a17 => ((gfR h x0 [11] 0).bind fun a18 => ((gfR h x0 [11] 7).bind fun a19 => ((rdL h a19 x12).bind fun j20 => ((chk h a18 3).bind fun _ => (bnd2 (fMo_plus h a18 x5 j20) fun h21 j22 => ((chk h21 a17 3).bind fun _ => (bnd2 (fMo_power n h21 a17 j22 x2.toInt64) fun h23 j24 => ((gfR h23 x0 [11] 0).bind fun a25 => ((gfR h23 x0 [11] 0).bind fun a26 => ((chk h23 x1 7).bind fun _ => (bnd2 (fSg_b h23 x1 x12) fun h27 j28 => ((chk h27 a26 3).bind fun _ => (bnd2 (fMo_times h27 a26 j28 j24) fun h29 j30 => ((chk h29 a25 3).bind fun _ => (bnd2 (fMo_plus h29 a25 x10 j30) fun h31 j32 => (k63 (h31, x0, x1, x2, x3, x4, x5, x7, x9, j32, (x12 + (1:Int32))))))))))))))))))))))
def fX_ridden_63 (k51 : (MH × Nat × Nat × Int32 × Int32 × Int32 × Int64 × Int64 × Int32) → Option (MH × Int64)) (n : Nat) (h : MH) (x0 : Nat) (x1 : Nat) (x2 : Int32) (x3 : Int32) (x4 : Int32) (x5 : Int64) (x7 : Int64) (x9 : Int32) (x10 : Int64) (x12 : Int32) : Option (MH × Int64) := lp (fun n k s => bX_ridden_63 k51 n k s.1 s.2.1 s.2.2.1 s.2.2.2.1 s.2.2.2.2.1 s.2.2.2.2.2.1 s.2.2.2.2.2.2.1 s.2.2.2.2.2.2.2.1 s.2.2.2.2.2.2.2.2.1 s.2.2.2.2.2.2.2.2.2.1 s.2.2.2.2.2.2.2.2.2.2) n (h, x0, x1, x2, x3, x4, x5, x7, x9, x10, x12)
set_option maxRecDepth 20000 in
set_option maxHeartbeats 4000000 in
theorem tX_ridden_63 {g : Gh} {h' : MH} {r' : Int64} {k51 : (MH × Nat × Nat × Int32 × Int32 × Int32 × Int64 × Int64 × Int32) → Option (MH × Int64)} (hk51 : ∀ (h : MH) (x0 : Nat) (x1 : Nat) (x2 : Int32) (x3 : Int32) (x4 : Int32) (x5 : Int64) (x7 : Int64) (x9 : Int32), k51 (h, x0, x1, x2, x3, x4, x5, x7, x9) = some (h', r') → V g yX_ridden cX_ridden 15 (some .long) rmX_ridden (ZQ g rmX_ridden h' (some (.long r'))) 0 0 h 51 [some (.ref x0), some (.ref x1), some (.int x2), some (.int x3), some (.int x4), some (.long x5), none, some (.long x7), none, some (.int x9), none, none, none, none, none] []) (n : Nat) (h : MH) (x0 : Nat) (x1 : Nat) (x2 : Int32) (x3 : Int32) (x4 : Int32) (x5 : Int64) (x7 : Int64) (x9 : Int32) (x10 : Int64) (x12 : Int32) (hf : fX_ridden_63 k51 n h x0 x1 x2 x3 x4 x5 x7 x9 x10 x12 = some (h', r')) : V g yX_ridden cX_ridden 15 (some .long) rmX_ridden (ZQ g rmX_ridden h' (some (.long r'))) 0 0 h 63 [some (.ref x0), some (.ref x1), some (.int x2), some (.int x3), some (.int x4), some (.long x5), none, some (.long x7), none, some (.int x9), some (.long x10), none, some (.int x12), none, none] [] := by
  unfold fX_ridden_63 at hf
  refine lp_ind (P := fun s => V g yX_ridden cX_ridden 15 (some .long) rmX_ridden (ZQ g rmX_ridden h' (some (.long r'))) 0 0 s.1 63 [some (.ref s.2.1), some (.ref s.2.2.1), some (.int s.2.2.2.1), some (.int s.2.2.2.2.1), some (.int s.2.2.2.2.2.1), some (.long s.2.2.2.2.2.2.1), none, some (.long s.2.2.2.2.2.2.2.1), none, some (.int s.2.2.2.2.2.2.2.2.1), some (.long s.2.2.2.2.2.2.2.2.2.1), none, some (.int s.2.2.2.2.2.2.2.2.2.2), none, none] []) (fun n k63 hk63 s hf => ?_) n (h, x0, x1, x2, x3, x4, x5, x7, x9, x10, x12) hf
  obtain ⟨h, x0, x1, x2, x3, x4, x5, x7, x9, x10, x12⟩ := s
  replace hk63 : ∀ (h : MH) (x0 : Nat) (x1 : Nat) (x2 : Int32) (x3 : Int32) (x4 : Int32) (x5 : Int64) (x7 : Int64) (x9 : Int32) (x10 : Int64) (x12 : Int32), k63 (h, x0, x1, x2, x3, x4, x5, x7, x9, x10, x12) = some (h', r') → V g yX_ridden cX_ridden 15 (some .long) rmX_ridden (ZQ g rmX_ridden h' (some (.long r'))) 0 0 h 63 [some (.ref x0), some (.ref x1), some (.int x2), some (.int x3), some (.int x4), some (.long x5), none, some (.long x7), none, some (.int x9), some (.long x10), none, some (.int x12), none, none] [] := fun h x0 x1 x2 x3 x4 x5 x7 x9 x10 x12 => hk63 (h, x0, x1, x2, x3, x4, x5, x7, x9, x10, x12)
  replace hf : bX_ridden_63 k51 n k63 h x0 x1 x2 x3 x4 x5 x7 x9 x10 x12 = some (h', r') := hf
  change V g yX_ridden cX_ridden 15 (some .long) rmX_ridden (ZQ g rmX_ridden h' (some (.long r'))) 0 0 h 63 [some (.ref x0), some (.ref x1), some (.int x2), some (.int x3), some (.int x4), some (.long x5), none, some (.long x7), none, some (.int x9), some (.long x10), none, some (.int x12), none, none] []
  unfold bX_ridden_63 at hf
  refine v_iload (pc := 63) dX_ridden_63 rfl ?_
  refine v_aload_n (i := 1) (pc := 65) dX_ridden_65 rfl rfl ?_
  refine v_getI (pc := 66) fgX_164 dX_ridden_66 hf (fun i1 hf => ?_)
  refine v_icmp_ge (pc := 69) (tgt := 131) dX_ridden_69 rfl hf (fun hf => ?_) (fun hf => ?_)
  · refine v_aload_n (i := 0) (pc := 131) dX_ridden_131 rfl rfl ?_
    refine v_getR (pc := 132) fgX_12 dX_ridden_132 hf (fun a2 hf => ?_)
    refine v_lload (pc := 135) dX_ridden_135 rfl ?_
    refine v_aload_n (i := 0) (pc := 137) dX_ridden_137 rfl rfl ?_
    refine v_getR (pc := 138) fgX_12 dX_ridden_138 hf (fun a3 hf => ?_)
    refine v_iload (pc := 141) dX_ridden_141 rfl ?_
    refine v_i2l (pc := 143) dX_ridden_143 ?_
    refine v_lload (pc := 144) dX_ridden_144 rfl ?_
    obtain ⟨u16, cu16, hf⟩ := bnd hf
    obtain ⟨h4, j5, e15, hf⟩ := bndp hf
    refine v_M1 (pc := 146) (As := [.long x4.toInt64, .long x10]) (rest := [.long x7, .ref a2]) lmX_252 cu16 (sMo_times e15) ⟨Nat.le_of_ble_eq_true rfl, Nat.le_of_ble_eq_true rfl, Nat.le_of_ble_eq_true rfl, Nat.le_of_ble_eq_true rfl⟩ dX_ridden_146 rfl rfl (Nat.le_of_ble_eq_true rfl) ?_
    obtain ⟨u14, cu14, hf⟩ := bnd hf
    obtain ⟨h6, j7, e13, hf⟩ := bndp hf
    refine v_M1 (pc := 149) (As := [.long x7, .long j5]) (rest := []) lmX_297 cu14 (sMo_plus e13) ⟨Nat.le_of_ble_eq_true rfl, Nat.le_of_ble_eq_true rfl, Nat.le_of_ble_eq_true rfl, Nat.le_of_ble_eq_true rfl⟩ dX_ridden_149 rfl rfl (Nat.le_of_ble_eq_true rfl) ?_
    refine v_lstore (pc := 152) (ls' := [some (.ref x0), some (.ref x1), some (.int x2), some (.int x3), some (.int x4), some (.long x5), none, some (.long j7), none, some (.int x9), some (.long x10), none, some (.int x12), none, none]) dX_ridden_152 (by decide) rfl ?_
    refine v_aload_n (i := 0) (pc := 154) dX_ridden_154 rfl rfl ?_
    refine v_getR (pc := 155) fgX_12 dX_ridden_155 hf (fun a8 hf => ?_)
    refine v_lload (pc := 158) dX_ridden_158 rfl ?_
    refine v_iload (pc := 160) dX_ridden_160 rfl ?_
    refine v_i2l (pc := 162) dX_ridden_162 ?_
    obtain ⟨u12, cu12, hf⟩ := bnd hf
    obtain ⟨h9, j10, e11, hf⟩ := bndp hf
    refine v_M1 (pc := 163) (As := [.long x5, .long x4.toInt64]) (rest := []) lmX_297 cu12 (sMo_plus e11) ⟨Nat.le_of_ble_eq_true rfl, Nat.le_of_ble_eq_true rfl, Nat.le_of_ble_eq_true rfl, Nat.le_of_ble_eq_true rfl⟩ dX_ridden_163 rfl rfl (Nat.le_of_ble_eq_true rfl) ?_
    refine v_lstore (pc := 166) (ls' := [some (.ref x0), some (.ref x1), some (.int x2), some (.int x3), some (.int x4), some (.long j10), none, some (.long j7), none, some (.int x9), some (.long x10), none, some (.int x12), none, none]) dX_ridden_166 (by decide) rfl ?_
    refine v_iinc (pc := 168) (v := (x9 + (1:Int32))) (ls' := [some (.ref x0), some (.ref x1), some (.int x2), some (.int x3), some (.int x4), some (.long j10), none, some (.long j7), none, some (.int (x9 + (1:Int32))), some (.long x10), none, some (.int x12), none, none]) dX_ridden_168 rfl rfl (by decide) rfl ?_
    refine v_goto (pc := 171) (tgt := 51) dX_ridden_171 rfl ?_
    refine v_wk (ls' := [some (.ref x0), some (.ref x1), some (.int x2), some (.int x3), some (.int x4), some (.long j10), none, some (.long j7), none, some (.int (x9 + (1:Int32))), none, none, none, none, none]) ⟨rfl, rfl, rfl, rfl, rfl, rfl, rfl, rfl, trivial⟩ ?_
    exact hk51 h9 x0 x1 x2 x3 x4 j10 j7 (x9 + (1:Int32)) hf
  refine v_aload_n (i := 0) (pc := 72) dX_ridden_72 rfl rfl ?_
  refine v_getR (pc := 73) fgX_12 dX_ridden_73 hf (fun a17 hf => ?_)
  refine v_aload_n (i := 0) (pc := 76) dX_ridden_76 rfl rfl ?_
  refine v_getR (pc := 77) fgX_12 dX_ridden_77 hf (fun a18 hf => ?_)
  refine v_lload (pc := 80) dX_ridden_80 rfl ?_
  refine v_aload_n (i := 0) (pc := 82) dX_ridden_82 rfl rfl ?_
  refine v_getR (pc := 83) fgX_63 dX_ridden_83 hf (fun a19 hf => ?_)
  refine v_iload (pc := 86) dX_ridden_86 rfl ?_
  refine v_lald (pc := 88) dX_ridden_88 hf (fun j20 hf => ?_)
  obtain ⟨u42, cu42, hf⟩ := bnd hf
  obtain ⟨h21, j22, e41, hf⟩ := bndp hf
  refine v_M1 (pc := 89) (As := [.long x5, .long j20]) (rest := [.ref a17]) lmX_297 cu42 (sMo_plus e41) ⟨Nat.le_of_ble_eq_true rfl, Nat.le_of_ble_eq_true rfl, Nat.le_of_ble_eq_true rfl, Nat.le_of_ble_eq_true rfl⟩ dX_ridden_89 rfl rfl (Nat.le_of_ble_eq_true rfl) ?_
  refine v_iload_n (i := 2) (pc := 92) dX_ridden_92 rfl rfl ?_
  refine v_i2l (pc := 93) dX_ridden_93 ?_
  obtain ⟨u40, cu40, hf⟩ := bnd hf
  obtain ⟨h23, j24, e39, hf⟩ := bndp hf
  refine v_M1 (pc := 94) (As := [.long j22, .long x2.toInt64]) (rest := []) lmX_304 cu40 (sMo_power e39) ⟨Nat.le_of_ble_eq_true rfl, Nat.le_of_ble_eq_true rfl, Nat.le_of_ble_eq_true rfl, Nat.le_of_ble_eq_true rfl⟩ dX_ridden_94 rfl rfl (Nat.le_of_ble_eq_true rfl) ?_
  refine v_lstore (pc := 97) (ls' := [some (.ref x0), some (.ref x1), some (.int x2), some (.int x3), some (.int x4), some (.long x5), none, some (.long x7), none, some (.int x9), some (.long x10), none, some (.int x12), some (.long j24), none]) dX_ridden_97 (by decide) rfl ?_
  refine v_aload_n (i := 0) (pc := 99) dX_ridden_99 rfl rfl ?_
  refine v_getR (pc := 100) fgX_12 dX_ridden_100 hf (fun a25 hf => ?_)
  refine v_lload (pc := 103) dX_ridden_103 rfl ?_
  refine v_aload_n (i := 0) (pc := 105) dX_ridden_105 rfl rfl ?_
  refine v_getR (pc := 106) fgX_12 dX_ridden_106 hf (fun a26 hf => ?_)
  refine v_aload_n (i := 1) (pc := 109) dX_ridden_109 rfl rfl ?_
  refine v_iload (pc := 110) dX_ridden_110 rfl ?_
  obtain ⟨u38, cu38, hf⟩ := bnd hf
  obtain ⟨h27, j28, e37, hf⟩ := bndp hf
  refine v_M1 (pc := 112) (As := [.int x12]) (rest := [.ref a26, .long x10, .ref a25]) lmX_187 cu38 (sSg_b e37) ⟨Nat.le_of_ble_eq_true rfl, Nat.le_of_ble_eq_true rfl, Nat.le_of_ble_eq_true rfl, Nat.le_of_ble_eq_true rfl⟩ dX_ridden_112 rfl rfl (Nat.le_of_ble_eq_true rfl) ?_
  refine v_lload (pc := 115) dX_ridden_115 rfl ?_
  obtain ⟨u36, cu36, hf⟩ := bnd hf
  obtain ⟨h29, j30, e35, hf⟩ := bndp hf
  refine v_M1 (pc := 117) (As := [.long j28, .long j24]) (rest := [.long x10, .ref a25]) lmX_252 cu36 (sMo_times e35) ⟨Nat.le_of_ble_eq_true rfl, Nat.le_of_ble_eq_true rfl, Nat.le_of_ble_eq_true rfl, Nat.le_of_ble_eq_true rfl⟩ dX_ridden_117 rfl rfl (Nat.le_of_ble_eq_true rfl) ?_
  obtain ⟨u34, cu34, hf⟩ := bnd hf
  obtain ⟨h31, j32, e33, hf⟩ := bndp hf
  refine v_M1 (pc := 120) (As := [.long x10, .long j30]) (rest := []) lmX_297 cu34 (sMo_plus e33) ⟨Nat.le_of_ble_eq_true rfl, Nat.le_of_ble_eq_true rfl, Nat.le_of_ble_eq_true rfl, Nat.le_of_ble_eq_true rfl⟩ dX_ridden_120 rfl rfl (Nat.le_of_ble_eq_true rfl) ?_
  refine v_lstore (pc := 123) (ls' := [some (.ref x0), some (.ref x1), some (.int x2), some (.int x3), some (.int x4), some (.long x5), none, some (.long x7), none, some (.int x9), some (.long j32), none, some (.int x12), some (.long j24), none]) dX_ridden_123 (by decide) rfl ?_
  refine v_iinc (pc := 125) (v := (x12 + (1:Int32))) (ls' := [some (.ref x0), some (.ref x1), some (.int x2), some (.int x3), some (.int x4), some (.long x5), none, some (.long x7), none, some (.int x9), some (.long j32), none, some (.int (x12 + (1:Int32))), some (.long j24), none]) dX_ridden_125 rfl rfl (by decide) rfl ?_
  refine v_goto (pc := 128) (tgt := 63) dX_ridden_128 rfl ?_
  refine v_wk (ls' := [some (.ref x0), some (.ref x1), some (.int x2), some (.int x3), some (.int x4), some (.long x5), none, some (.long x7), none, some (.int x9), some (.long j32), none, some (.int (x12 + (1:Int32))), none, none]) ⟨rfl, rfl, rfl, rfl, rfl, rfl, rfl, rfl, rfl, rfl, trivial⟩ ?_
  exact hk63 h31 x0 x1 x2 x3 x4 x5 x7 x9 j32 (x12 + (1:Int32)) hf
def bX_ridden_51 (n : Nat) (k51 : (MH × Nat × Nat × Int32 × Int32 × Int32 × Int64 × Int64 × Int32) → Option (MH × Int64)) (h : MH) (x0 : Nat) (x1 : Nat) (x2 : Int32) (x3 : Int32) (x4 : Int32) (x5 : Int64) (x7 : Int64) (x9 : Int32) : Option (MH × Int64) := (if x3 ≤ x9 then (some (h, x7)) else (fX_ridden_63 k51 n h x0 x1 x2 x3 x4 x5 x7 x9 (0:Int64) (0:Int32)))
def fX_ridden_51 (n : Nat) (h : MH) (x0 : Nat) (x1 : Nat) (x2 : Int32) (x3 : Int32) (x4 : Int32) (x5 : Int64) (x7 : Int64) (x9 : Int32) : Option (MH × Int64) := lp (fun n k s => bX_ridden_51 n k s.1 s.2.1 s.2.2.1 s.2.2.2.1 s.2.2.2.2.1 s.2.2.2.2.2.1 s.2.2.2.2.2.2.1 s.2.2.2.2.2.2.2.1 s.2.2.2.2.2.2.2.2) n (h, x0, x1, x2, x3, x4, x5, x7, x9)
set_option maxRecDepth 20000 in
set_option maxHeartbeats 4000000 in
theorem tX_ridden_51 {g : Gh} {h' : MH} {r' : Int64} (n : Nat) (h : MH) (x0 : Nat) (x1 : Nat) (x2 : Int32) (x3 : Int32) (x4 : Int32) (x5 : Int64) (x7 : Int64) (x9 : Int32) (hf : fX_ridden_51 n h x0 x1 x2 x3 x4 x5 x7 x9 = some (h', r')) : V g yX_ridden cX_ridden 15 (some .long) rmX_ridden (ZQ g rmX_ridden h' (some (.long r'))) 0 0 h 51 [some (.ref x0), some (.ref x1), some (.int x2), some (.int x3), some (.int x4), some (.long x5), none, some (.long x7), none, some (.int x9), none, none, none, none, none] [] := by
  unfold fX_ridden_51 at hf
  refine lp_ind (P := fun s => V g yX_ridden cX_ridden 15 (some .long) rmX_ridden (ZQ g rmX_ridden h' (some (.long r'))) 0 0 s.1 51 [some (.ref s.2.1), some (.ref s.2.2.1), some (.int s.2.2.2.1), some (.int s.2.2.2.2.1), some (.int s.2.2.2.2.2.1), some (.long s.2.2.2.2.2.2.1), none, some (.long s.2.2.2.2.2.2.2.1), none, some (.int s.2.2.2.2.2.2.2.2), none, none, none, none, none] []) (fun n k51 hk51 s hf => ?_) n (h, x0, x1, x2, x3, x4, x5, x7, x9) hf
  obtain ⟨h, x0, x1, x2, x3, x4, x5, x7, x9⟩ := s
  replace hk51 : ∀ (h : MH) (x0 : Nat) (x1 : Nat) (x2 : Int32) (x3 : Int32) (x4 : Int32) (x5 : Int64) (x7 : Int64) (x9 : Int32), k51 (h, x0, x1, x2, x3, x4, x5, x7, x9) = some (h', r') → V g yX_ridden cX_ridden 15 (some .long) rmX_ridden (ZQ g rmX_ridden h' (some (.long r'))) 0 0 h 51 [some (.ref x0), some (.ref x1), some (.int x2), some (.int x3), some (.int x4), some (.long x5), none, some (.long x7), none, some (.int x9), none, none, none, none, none] [] := fun h x0 x1 x2 x3 x4 x5 x7 x9 => hk51 (h, x0, x1, x2, x3, x4, x5, x7, x9)
  replace hf : bX_ridden_51 n k51 h x0 x1 x2 x3 x4 x5 x7 x9 = some (h', r') := hf
  change V g yX_ridden cX_ridden 15 (some .long) rmX_ridden (ZQ g rmX_ridden h' (some (.long r'))) 0 0 h 51 [some (.ref x0), some (.ref x1), some (.int x2), some (.int x3), some (.int x4), some (.long x5), none, some (.long x7), none, some (.int x9), none, none, none, none, none] []
  unfold bX_ridden_51 at hf
  refine v_iload (pc := 51) dX_ridden_51 rfl ?_
  refine v_iload_n (i := 3) (pc := 53) dX_ridden_53 rfl rfl ?_
  refine v_icmp_ge (pc := 54) (tgt := 174) dX_ridden_54 rfl hf (fun hf => ?_) (fun hf => ?_)
  · refine v_lload (pc := 174) dX_ridden_174 rfl ?_
    exact v_lret (pc := 176) dX_ridden_176 (by decide) (by decide) hf
  refine v_lconst (pc := 57) (0:Int64) dX_ridden_57 rfl ?_
  refine v_lstore (pc := 58) (ls' := [some (.ref x0), some (.ref x1), some (.int x2), some (.int x3), some (.int x4), some (.long x5), none, some (.long x7), none, some (.int x9), some (.long (0:Int64)), none, none, none, none]) dX_ridden_58 (by decide) rfl ?_
  refine v_iconst (pc := 60) (0:Int32) dX_ridden_60 rfl ?_
  refine v_istore (pc := 61) (ls' := [some (.ref x0), some (.ref x1), some (.int x2), some (.int x3), some (.int x4), some (.long x5), none, some (.long x7), none, some (.int x9), some (.long (0:Int64)), none, some (.int (0:Int32)), none, none]) dX_ridden_61 (by decide) rfl ?_
  refine v_wk (ls' := [some (.ref x0), some (.ref x1), some (.int x2), some (.int x3), some (.int x4), some (.long x5), none, some (.long x7), none, some (.int x9), some (.long (0:Int64)), none, some (.int (0:Int32)), none, none]) ⟨rfl, rfl, rfl, rfl, rfl, rfl, rfl, rfl, rfl, rfl, trivial⟩ ?_
  exact tX_ridden_63 hk51 n h x0 x1 x2 x3 x4 x5 x7 x9 (0:Int64) (0:Int32) hf
def bX_ridden_3 (n : Nat) (k3 : (MH × Nat × Nat × Int32 × Int32 × Int32 × Int32) → Option (MH × Int64)) (h : MH) (x0 : Nat) (x1 : Nat) (x2 : Int32) (x3 : Int32) (x4 : Int32) (x5 : Int32) : Option (MH × Int64) := ((gfI h x1 [7] 0).bind fun i1 => (if i1 ≤ x5 then (fX_ridden_51 n h x0 x1 x2 x3 x4 (0:Int64) (0:Int64) (0:Int32)) else ((gfR h x0 [11] 7).bind fun a2 => ((gfR h x0 [11] 0).bind fun a3 => ((chk h x0 11).bind fun _ => (bnd2 (fX_rowSum n h x0 x1 x5) fun h4 j5 => ((chk h4 a3 3).bind fun _ => (bnd2 (fMo_times h4 a3 j5 x4.toInt64) fun h6 j7 => ((wrL h6 a2 x5 j7).bind fun h8 => (k3 (h8, x0, x1, x2, x3, x4, (x5 + (1:Int32)))))))))))))
def fX_ridden_3 (n : Nat) (h : MH) (x0 : Nat) (x1 : Nat) (x2 : Int32) (x3 : Int32) (x4 : Int32) (x5 : Int32) : Option (MH × Int64) := lp (fun n k s => bX_ridden_3 n k s.1 s.2.1 s.2.2.1 s.2.2.2.1 s.2.2.2.2.1 s.2.2.2.2.2.1 s.2.2.2.2.2.2) n (h, x0, x1, x2, x3, x4, x5)
set_option maxRecDepth 20000 in
set_option maxHeartbeats 4000000 in
theorem tX_ridden_3 {g : Gh} {h' : MH} {r' : Int64} (n : Nat) (h : MH) (x0 : Nat) (x1 : Nat) (x2 : Int32) (x3 : Int32) (x4 : Int32) (x5 : Int32) (hf : fX_ridden_3 n h x0 x1 x2 x3 x4 x5 = some (h', r')) : V g yX_ridden cX_ridden 15 (some .long) rmX_ridden (ZQ g rmX_ridden h' (some (.long r'))) 0 0 h 3 [some (.ref x0), some (.ref x1), some (.int x2), some (.int x3), some (.int x4), some (.int x5), none, none, none, none, none, none, none, none, none] [] := by
  unfold fX_ridden_3 at hf
  refine lp_ind (P := fun s => V g yX_ridden cX_ridden 15 (some .long) rmX_ridden (ZQ g rmX_ridden h' (some (.long r'))) 0 0 s.1 3 [some (.ref s.2.1), some (.ref s.2.2.1), some (.int s.2.2.2.1), some (.int s.2.2.2.2.1), some (.int s.2.2.2.2.2.1), some (.int s.2.2.2.2.2.2), none, none, none, none, none, none, none, none, none] []) (fun n k3 hk3 s hf => ?_) n (h, x0, x1, x2, x3, x4, x5) hf
  obtain ⟨h, x0, x1, x2, x3, x4, x5⟩ := s
  replace hk3 : ∀ (h : MH) (x0 : Nat) (x1 : Nat) (x2 : Int32) (x3 : Int32) (x4 : Int32) (x5 : Int32), k3 (h, x0, x1, x2, x3, x4, x5) = some (h', r') → V g yX_ridden cX_ridden 15 (some .long) rmX_ridden (ZQ g rmX_ridden h' (some (.long r'))) 0 0 h 3 [some (.ref x0), some (.ref x1), some (.int x2), some (.int x3), some (.int x4), some (.int x5), none, none, none, none, none, none, none, none, none] [] := fun h x0 x1 x2 x3 x4 x5 => hk3 (h, x0, x1, x2, x3, x4, x5)
  replace hf : bX_ridden_3 n k3 h x0 x1 x2 x3 x4 x5 = some (h', r') := hf
  change V g yX_ridden cX_ridden 15 (some .long) rmX_ridden (ZQ g rmX_ridden h' (some (.long r'))) 0 0 h 3 [some (.ref x0), some (.ref x1), some (.int x2), some (.int x3), some (.int x4), some (.int x5), none, none, none, none, none, none, none, none, none] []
  unfold bX_ridden_3 at hf
  refine v_iload (pc := 3) dX_ridden_3 rfl ?_
  refine v_aload_n (i := 1) (pc := 5) dX_ridden_5 rfl rfl ?_
  refine v_getI (pc := 6) fgX_164 dX_ridden_6 hf (fun i1 hf => ?_)
  refine v_icmp_ge (pc := 9) (tgt := 42) dX_ridden_9 rfl hf (fun hf => ?_) (fun hf => ?_)
  · refine v_lconst (pc := 42) (0:Int64) dX_ridden_42 rfl ?_
    refine v_lstore (pc := 43) (ls' := [some (.ref x0), some (.ref x1), some (.int x2), some (.int x3), some (.int x4), some (.long (0:Int64)), none, none, none, none, none, none, none, none, none]) dX_ridden_43 (by decide) rfl ?_
    refine v_lconst (pc := 45) (0:Int64) dX_ridden_45 rfl ?_
    refine v_lstore (pc := 46) (ls' := [some (.ref x0), some (.ref x1), some (.int x2), some (.int x3), some (.int x4), some (.long (0:Int64)), none, some (.long (0:Int64)), none, none, none, none, none, none, none]) dX_ridden_46 (by decide) rfl ?_
    refine v_iconst (pc := 48) (0:Int32) dX_ridden_48 rfl ?_
    refine v_istore (pc := 49) (ls' := [some (.ref x0), some (.ref x1), some (.int x2), some (.int x3), some (.int x4), some (.long (0:Int64)), none, some (.long (0:Int64)), none, some (.int (0:Int32)), none, none, none, none, none]) dX_ridden_49 (by decide) rfl ?_
    refine v_wk (ls' := [some (.ref x0), some (.ref x1), some (.int x2), some (.int x3), some (.int x4), some (.long (0:Int64)), none, some (.long (0:Int64)), none, some (.int (0:Int32)), none, none, none, none, none]) ⟨rfl, rfl, rfl, rfl, rfl, rfl, rfl, rfl, trivial⟩ ?_
    exact tX_ridden_51 n h x0 x1 x2 x3 x4 (0:Int64) (0:Int64) (0:Int32) hf
  refine v_aload_n (i := 0) (pc := 12) dX_ridden_12 rfl rfl ?_
  refine v_getR (pc := 13) fgX_63 dX_ridden_13 hf (fun a2 hf => ?_)
  refine v_iload (pc := 16) dX_ridden_16 rfl ?_
  refine v_aload_n (i := 0) (pc := 18) dX_ridden_18 rfl rfl ?_
  refine v_getR (pc := 19) fgX_12 dX_ridden_19 hf (fun a3 hf => ?_)
  refine v_aload_n (i := 0) (pc := 22) dX_ridden_22 rfl rfl ?_
  refine v_aload_n (i := 1) (pc := 23) dX_ridden_23 rfl rfl ?_
  refine v_iload (pc := 24) dX_ridden_24 rfl ?_
  obtain ⟨u12, cu12, hf⟩ := bnd hf
  obtain ⟨h4, j5, e11, hf⟩ := bndp hf
  refine v_M1 (pc := 26) (As := [.ref x1, .int x5]) (rest := [.ref a3, .int x5, .ref a2]) lmX_300 cu12 (sX_rowSum e11) ⟨Nat.le_of_ble_eq_true rfl, Nat.le_of_ble_eq_true rfl, Nat.le_of_ble_eq_true rfl, Nat.le_of_ble_eq_true rfl⟩ dX_ridden_26 rfl rfl (Nat.le_of_ble_eq_true rfl) ?_
  refine v_iload (pc := 29) dX_ridden_29 rfl ?_
  refine v_i2l (pc := 31) dX_ridden_31 ?_
  obtain ⟨u10, cu10, hf⟩ := bnd hf
  obtain ⟨h6, j7, e9, hf⟩ := bndp hf
  refine v_M1 (pc := 32) (As := [.long j5, .long x4.toInt64]) (rest := [.int x5, .ref a2]) lmX_252 cu10 (sMo_times e9) ⟨Nat.le_of_ble_eq_true rfl, Nat.le_of_ble_eq_true rfl, Nat.le_of_ble_eq_true rfl, Nat.le_of_ble_eq_true rfl⟩ dX_ridden_32 rfl rfl (Nat.le_of_ble_eq_true rfl) ?_
  refine v_last (pc := 35) dX_ridden_35 hf (fun h8 hf => ?_)
  refine v_iinc (pc := 36) (v := (x5 + (1:Int32))) (ls' := [some (.ref x0), some (.ref x1), some (.int x2), some (.int x3), some (.int x4), some (.int (x5 + (1:Int32))), none, none, none, none, none, none, none, none, none]) dX_ridden_36 rfl rfl (by decide) rfl ?_
  refine v_goto (pc := 39) (tgt := 3) dX_ridden_39 rfl ?_
  refine v_wk (ls' := [some (.ref x0), some (.ref x1), some (.int x2), some (.int x3), some (.int x4), some (.int (x5 + (1:Int32))), none, none, none, none, none, none, none, none, none]) ⟨rfl, rfl, rfl, rfl, rfl, rfl, trivial⟩ ?_
  exact hk3 h8 x0 x1 x2 x3 x4 (x5 + (1:Int32)) hf
def fX_ridden (n : Nat) (h : MH) (a_0 : Nat) (a_1 : Nat) (i_2 : Int32) (i_3 : Int32) (i_4 : Int32) : Option (MH × Int64) := (fX_ridden_3 n h a_0 a_1 i_2 i_3 i_4 (0:Int32))
set_option maxRecDepth 20000 in
set_option maxHeartbeats 4000000 in
theorem sX_ridden {g : Gh} {h' : MH} {r' : Int64} {n : Nat} {h : MH} {a_0 : Nat} {a_1 : Nat} {i_2 : Int32} {i_3 : Int32} {i_4 : Int32} (hf : fX_ridden n h a_0 a_1 i_2 i_3 i_4 = some (h', r')) : Sp g yX_ridden cX_ridden 15 (some .long) rmX_ridden h [.ref a_0, .ref a_1, .int i_2, .int i_3, .int i_4] h' (some (.long r')) := by
  refine sp_of (by decide) (Nat.le_of_ble_eq_true rfl) ?_
  change V g yX_ridden cX_ridden 15 (some .long) rmX_ridden (ZQ g rmX_ridden h' (some (.long r'))) 0 0 h 0 [some (.ref a_0), some (.ref a_1), some (.int i_2), some (.int i_3), some (.int i_4), none, none, none, none, none, none, none, none, none, none] []
  unfold fX_ridden at hf
  refine v_iconst (pc := 0) (0:Int32) dX_ridden_0 rfl ?_
  refine v_istore (pc := 1) (ls' := [some (.ref a_0), some (.ref a_1), some (.int i_2), some (.int i_3), some (.int i_4), some (.int (0:Int32)), none, none, none, none, none, none, none, none, none]) dX_ridden_1 (by decide) rfl ?_
  refine v_wk (ls' := [some (.ref a_0), some (.ref a_1), some (.int i_2), some (.int i_3), some (.int i_4), some (.int (0:Int32)), none, none, none, none, none, none, none, none, none]) ⟨rfl, rfl, rfl, rfl, rfl, rfl, trivial⟩ ?_
  exact tX_ridden_3 n h a_0 a_1 i_2 i_3 i_4 (0:Int32) hf
abbrev rmX_ride : Room := { frames := 3, cells := 0, slots := 0, locals := 87 }
def fX_ride (n : Nat) (h : MH) (a_0 : Nat) (i_1 : Int32) (i_2 : Int32) (i_3 : Int32) (i_4 : Int32) : Option (MH × Int32) := (bnd2 (fX_noPlace n h i_1) fun h1 i2 => (if i2 = (0:Int32) then (if i_2 < (0:Int32) then (some (h1, (-1000001:Int32))) else (if i_2 ≤ (9:Int32) then (if i_3 < (0:Int32) then (some (h1, (-1000001:Int32))) else (if (1000:Int32) < i_3 then (some (h1, (-1000001:Int32))) else (if i_4 < (0:Int32) then (some (h1, (-1000001:Int32))) else ((gfR h1 a_0 [11] 0).bind fun a3 => ((gfL h1 a3 [3] 0).bind fun j4 => (if i_4.toInt64 < j4 then ((gfR h1 a_0 [11] 6).bind fun a5 => (rdRn h1 a5 4 i_1 ((chk h1 a_0 11).bind fun _ => (bnd2 (fX_found h1 a_0 (1:Int32)) fun h16 i17 => (some (h16, i17)))) fun a6 => ((gfR h1 a6 [8, 1, 2, 4] 0).bind fun a7 => ((chk h1 a_0 11).bind fun _ => (bnd2 (fX_ridden n h1 a_0 a7 i_2 i_3 i_4) fun h8 j9 => ((chk h8 a_0 11).bind fun _ => (bnd2 (fX_well h8 a_0 j9.toInt32) fun h10 i11 => (some (h10, i11))))))))) else (some (h1, (-1000001:Int32))))))))) else (some (h1, (-1000001:Int32))))) else (some (h1, (-1000001:Int32)))))
set_option maxRecDepth 20000 in
set_option maxHeartbeats 4000000 in
theorem sX_ride {g : Gh} {h' : MH} {r' : Int32} {n : Nat} {h : MH} {a_0 : Nat} {i_1 : Int32} {i_2 : Int32} {i_3 : Int32} {i_4 : Int32} (hf : fX_ride n h a_0 i_1 i_2 i_3 i_4 = some (h', r')) : Sp g yX_ride cX_ride 6 (some .int) rmX_ride h [.ref a_0, .int i_1, .int i_2, .int i_3, .int i_4] h' (some (.int r')) := by
  refine sp_of (by decide) (Nat.le_of_ble_eq_true rfl) ?_
  change V g yX_ride cX_ride 6 (some .int) rmX_ride (ZQ g rmX_ride h' (some (.int r'))) 0 0 h 0 [some (.ref a_0), some (.int i_1), some (.int i_2), some (.int i_3), some (.int i_4), none] []
  unfold fX_ride at hf
  refine v_iload_n (i := 1) (pc := 0) dX_ride_0 rfl rfl ?_
  obtain ⟨h1, i2, e20, hf⟩ := bndp hf
  refine v_S1 (pc := 1) (As := [.int i_1]) (rest := []) lsX_143 (sX_noPlace e20) ⟨Nat.le_of_ble_eq_true rfl, Nat.le_of_ble_eq_true rfl, Nat.le_of_ble_eq_true rfl, Nat.le_of_ble_eq_true rfl⟩ dX_ride_1 rfl rfl (Nat.le_of_ble_eq_true rfl) ?_
  refine v_if_ne (pc := 4) (tgt := 17) dX_ride_4 rfl hf (fun hf => ?_) (fun hf => ?_)
  rotate_left
  · refine v_ldc (pc := 17) dX_ride_17 kiX_71 ?_
    exact v_iret (pc := 19) dX_ride_19 (by decide) (by decide) hf
  refine v_iload_n (i := 2) (pc := 7) dX_ride_7 rfl rfl ?_
  refine v_if_lt (pc := 8) (tgt := 17) dX_ride_8 rfl hf (fun hf => ?_) (fun hf => ?_)
  · refine v_ldc (pc := 17) dX_ride_17 kiX_71 ?_
    exact v_iret (pc := 19) dX_ride_19 (by decide) (by decide) hf
  refine v_iload_n (i := 2) (pc := 11) dX_ride_11 rfl rfl ?_
  refine v_bipush (pc := 12) (9:Int32) dX_ride_12 rfl ?_
  refine v_icmp_le (pc := 14) (tgt := 20) dX_ride_14 rfl hf (fun hf => ?_) (fun hf => ?_)
  rotate_left
  · refine v_ldc (pc := 17) dX_ride_17 kiX_71 ?_
    exact v_iret (pc := 19) dX_ride_19 (by decide) (by decide) hf
  refine v_iload_n (i := 3) (pc := 20) dX_ride_20 rfl rfl ?_
  refine v_if_lt (pc := 21) (tgt := 50) dX_ride_21 rfl hf (fun hf => ?_) (fun hf => ?_)
  · refine v_ldc (pc := 50) dX_ride_50 kiX_71 ?_
    exact v_iret (pc := 52) dX_ride_52 (by decide) (by decide) hf
  refine v_iload_n (i := 3) (pc := 24) dX_ride_24 rfl rfl ?_
  refine v_sipush (pc := 25) (1000:Int32) dX_ride_25 rfl ?_
  refine v_icmp_gt (pc := 28) (tgt := 50) dX_ride_28 rfl hf (fun hf => ?_) (fun hf => ?_)
  · refine v_ldc (pc := 50) dX_ride_50 kiX_71 ?_
    exact v_iret (pc := 52) dX_ride_52 (by decide) (by decide) hf
  refine v_iload (pc := 31) dX_ride_31 rfl ?_
  refine v_if_lt (pc := 33) (tgt := 50) dX_ride_33 rfl hf (fun hf => ?_) (fun hf => ?_)
  · refine v_ldc (pc := 50) dX_ride_50 kiX_71 ?_
    exact v_iret (pc := 52) dX_ride_52 (by decide) (by decide) hf
  refine v_iload (pc := 36) dX_ride_36 rfl ?_
  refine v_i2l (pc := 38) dX_ride_38 ?_
  refine v_aload_n (i := 0) (pc := 39) dX_ride_39 rfl rfl ?_
  refine v_getR (pc := 40) fgX_12 dX_ride_40 hf (fun a3 hf => ?_)
  refine v_getL (pc := 43) fgX_179 dX_ride_43 hf (fun j4 hf => ?_)
  refine v_lcmp_lt (pc := 46) (tgt := 53) dX_ride_46 dX_ride_47 rfl hf (fun hf => ?_) (fun hf => ?_)
  rotate_left
  · refine v_ldc (pc := 50) dX_ride_50 kiX_71 ?_
    exact v_iret (pc := 52) dX_ride_52 (by decide) (by decide) hf
  refine v_aload_n (i := 0) (pc := 53) dX_ride_53 rfl rfl ?_
  refine v_getR (pc := 54) fgX_59 dX_ride_54 hf (fun a5 hf => ?_)
  refine v_iload_n (i := 1) (pc := 57) dX_ride_57 rfl rfl ?_
  refine v_aald (pc := 58) (Or.inr (Or.inr rfl)) dX_ride_58 hf (fun hf => ?_) (fun a6 hf => ?_)
  · refine v_astoreN (pc := 59) (ls' := [some (.ref a_0), some (.int i_1), some (.int i_2), some (.int i_3), some (.int i_4), some (.null)]) dX_ride_59 (by decide) rfl ?_
    refine v_aloadN (pc := 61) dX_ride_61 rfl ?_
    refine v_ifnonnullN (pc := 63) dX_ride_63 ?_
    refine v_aload_n (i := 0) (pc := 66) dX_ride_66 rfl rfl ?_
    refine v_iconst (pc := 67) (1:Int32) dX_ride_67 rfl ?_
    obtain ⟨u19, cu19, hf⟩ := bnd hf
    obtain ⟨h16, i17, e18, hf⟩ := bndp hf
    refine v_M1 (pc := 68) (As := [.int (1:Int32)]) (rest := []) lmX_72 cu19 (sX_found e18) ⟨Nat.le_of_ble_eq_true rfl, Nat.le_of_ble_eq_true rfl, Nat.le_of_ble_eq_true rfl, Nat.le_of_ble_eq_true rfl⟩ dX_ride_68 rfl rfl (Nat.le_of_ble_eq_true rfl) ?_
    refine v_goto (pc := 71) (tgt := 92) dX_ride_71 rfl ?_
    exact v_iret (pc := 92) dX_ride_92 (by decide) (by decide) hf
  refine v_astore (pc := 59) (ls' := [some (.ref a_0), some (.int i_1), some (.int i_2), some (.int i_3), some (.int i_4), some (.ref a6)]) dX_ride_59 (by decide) rfl ?_
  refine v_aload (pc := 61) dX_ride_61 rfl ?_
  refine v_ifnonnull (pc := 63) (tgt := 74) dX_ride_63 rfl ?_
  refine v_aload_n (i := 0) (pc := 74) dX_ride_74 rfl rfl ?_
  refine v_aload_n (i := 0) (pc := 75) dX_ride_75 rfl rfl ?_
  refine v_aload (pc := 76) dX_ride_76 rfl ?_
  refine v_getR (pc := 78) fgX_160 dX_ride_78 hf (fun a7 hf => ?_)
  refine v_iload_n (i := 2) (pc := 81) dX_ride_81 rfl rfl ?_
  refine v_iload_n (i := 3) (pc := 82) dX_ride_82 rfl rfl ?_
  refine v_iload (pc := 83) dX_ride_83 rfl ?_
  obtain ⟨u15, cu15, hf⟩ := bnd hf
  obtain ⟨h8, j9, e14, hf⟩ := bndp hf
  refine v_M1 (pc := 85) (As := [.ref a7, .int i_2, .int i_3, .int i_4]) (rest := [.ref a_0]) lmX_230 cu15 (sX_ridden e14) ⟨Nat.le_of_ble_eq_true rfl, Nat.le_of_ble_eq_true rfl, Nat.le_of_ble_eq_true rfl, Nat.le_of_ble_eq_true rfl⟩ dX_ride_85 rfl rfl (Nat.le_of_ble_eq_true rfl) ?_
  refine v_l2i (pc := 88) dX_ride_88 ?_
  obtain ⟨u13, cu13, hf⟩ := bnd hf
  obtain ⟨h10, i11, e12, hf⟩ := bndp hf
  refine v_M1 (pc := 89) (As := [.int j9.toInt32]) (rest := []) lmX_80 cu13 (sX_well e12) ⟨Nat.le_of_ble_eq_true rfl, Nat.le_of_ble_eq_true rfl, Nat.le_of_ble_eq_true rfl, Nat.le_of_ble_eq_true rfl⟩ dX_ride_89 rfl rfl (Nat.le_of_ble_eq_true rfl) ?_
  exact v_iret (pc := 92) dX_ride_92 (by decide) (by decide) hf
abbrev rmX_sameWeights : Room := { frames := 0, cells := 0, slots := 0, locals := 0 }
def bX_sameWeights_3 (n : Nat) (k3 : (MH × Nat × Nat × Nat × Int32 × Int32) → Option (MH × Int32)) (h : MH) (x0 : Nat) (x1 : Nat) (x2 : Nat) (x3 : Int32) (x4 : Int32) : Option (MH × Int32) := (if (37:Int32) ≤ x4 then (retZ h (1:Int32)) else ((gfR h x0 [11] 1).bind fun a1 => ((gfR h a1 [0] 1).bind fun a2 => ((rdI h a2 x4).bind fun i3 => (if x3 < i3 then (retZ h (1:Int32)) else ((rdI h x1 x4).bind fun i4 => ((rdI h x2 x4).bind fun i5 => (if i4 = i5 then (k3 (h, x0, x1, x2, x3, (x4 + (1:Int32)))) else (retZ h (0:Int32))))))))))
def fX_sameWeights_3 (n : Nat) (h : MH) (x0 : Nat) (x1 : Nat) (x2 : Nat) (x3 : Int32) (x4 : Int32) : Option (MH × Int32) := lp (fun n k s => bX_sameWeights_3 n k s.1 s.2.1 s.2.2.1 s.2.2.2.1 s.2.2.2.2.1 s.2.2.2.2.2) n (h, x0, x1, x2, x3, x4)
set_option maxRecDepth 20000 in
set_option maxHeartbeats 4000000 in
theorem tX_sameWeights_3 {g : Gh} {h' : MH} {r' : Int32} (n : Nat) (h : MH) (x0 : Nat) (x1 : Nat) (x2 : Nat) (x3 : Int32) (x4 : Int32) (hf : fX_sameWeights_3 n h x0 x1 x2 x3 x4 = some (h', r')) : V g yX_sameWeights cX_sameWeights 5 (some .boolean) rmX_sameWeights (ZQ g rmX_sameWeights h' (some (.int r'))) 0 0 h 3 [some (.ref x0), some (.ref x1), some (.ref x2), some (.int x3), some (.int x4)] [] := by
  unfold fX_sameWeights_3 at hf
  refine lp_ind (P := fun s => V g yX_sameWeights cX_sameWeights 5 (some .boolean) rmX_sameWeights (ZQ g rmX_sameWeights h' (some (.int r'))) 0 0 s.1 3 [some (.ref s.2.1), some (.ref s.2.2.1), some (.ref s.2.2.2.1), some (.int s.2.2.2.2.1), some (.int s.2.2.2.2.2)] []) (fun n k3 hk3 s hf => ?_) n (h, x0, x1, x2, x3, x4) hf
  obtain ⟨h, x0, x1, x2, x3, x4⟩ := s
  replace hk3 : ∀ (h : MH) (x0 : Nat) (x1 : Nat) (x2 : Nat) (x3 : Int32) (x4 : Int32), k3 (h, x0, x1, x2, x3, x4) = some (h', r') → V g yX_sameWeights cX_sameWeights 5 (some .boolean) rmX_sameWeights (ZQ g rmX_sameWeights h' (some (.int r'))) 0 0 h 3 [some (.ref x0), some (.ref x1), some (.ref x2), some (.int x3), some (.int x4)] [] := fun h x0 x1 x2 x3 x4 => hk3 (h, x0, x1, x2, x3, x4)
  replace hf : bX_sameWeights_3 n k3 h x0 x1 x2 x3 x4 = some (h', r') := hf
  change V g yX_sameWeights cX_sameWeights 5 (some .boolean) rmX_sameWeights (ZQ g rmX_sameWeights h' (some (.int r'))) 0 0 h 3 [some (.ref x0), some (.ref x1), some (.ref x2), some (.int x3), some (.int x4)] []
  unfold bX_sameWeights_3 at hf
  refine v_iload (pc := 3) dX_sameWeights_3 rfl ?_
  refine v_bipush (pc := 5) (37:Int32) dX_sameWeights_5 rfl ?_
  refine v_icmp_ge (pc := 7) (tgt := 43) dX_sameWeights_7 rfl hf (fun hf => ?_) (fun hf => ?_)
  · refine v_iconst (pc := 43) (1:Int32) dX_sameWeights_43 rfl ?_
    exact v_zret (pc := 44) dX_sameWeights_44 (by decide) (by decide) hf
  refine v_aload_n (i := 0) (pc := 10) dX_sameWeights_10 rfl rfl ?_
  refine v_getR (pc := 11) fgX_21 dX_sameWeights_11 hf (fun a1 hf => ?_)
  refine v_getR (pc := 14) fgX_122 dX_sameWeights_14 hf (fun a2 hf => ?_)
  refine v_iload (pc := 17) dX_sameWeights_17 rfl ?_
  refine v_iald (pc := 19) dX_sameWeights_19 hf (fun i3 hf => ?_)
  refine v_iload_n (i := 3) (pc := 20) dX_sameWeights_20 rfl rfl ?_
  refine v_icmp_gt (pc := 21) (tgt := 43) dX_sameWeights_21 rfl hf (fun hf => ?_) (fun hf => ?_)
  · refine v_iconst (pc := 43) (1:Int32) dX_sameWeights_43 rfl ?_
    exact v_zret (pc := 44) dX_sameWeights_44 (by decide) (by decide) hf
  refine v_aload_n (i := 1) (pc := 24) dX_sameWeights_24 rfl rfl ?_
  refine v_iload (pc := 25) dX_sameWeights_25 rfl ?_
  refine v_iald (pc := 27) dX_sameWeights_27 hf (fun i4 hf => ?_)
  refine v_aload_n (i := 2) (pc := 28) dX_sameWeights_28 rfl rfl ?_
  refine v_iload (pc := 29) dX_sameWeights_29 rfl ?_
  refine v_iald (pc := 31) dX_sameWeights_31 hf (fun i5 hf => ?_)
  refine v_icmp_eq (pc := 32) (tgt := 37) dX_sameWeights_32 rfl hf (fun hf => ?_) (fun hf => ?_)
  rotate_left
  · refine v_iconst (pc := 35) (0:Int32) dX_sameWeights_35 rfl ?_
    exact v_zret (pc := 36) dX_sameWeights_36 (by decide) (by decide) hf
  refine v_iinc (pc := 37) (v := (x4 + (1:Int32))) (ls' := [some (.ref x0), some (.ref x1), some (.ref x2), some (.int x3), some (.int (x4 + (1:Int32)))]) dX_sameWeights_37 rfl rfl (by decide) rfl ?_
  refine v_goto (pc := 40) (tgt := 3) dX_sameWeights_40 rfl ?_
  refine v_wk (ls' := [some (.ref x0), some (.ref x1), some (.ref x2), some (.int x3), some (.int (x4 + (1:Int32)))]) ⟨rfl, rfl, rfl, rfl, rfl, trivial⟩ ?_
  exact hk3 h x0 x1 x2 x3 (x4 + (1:Int32)) hf
def fX_sameWeights (n : Nat) (h : MH) (a_0 : Nat) (a_1 : Nat) (a_2 : Nat) (i_3 : Int32) : Option (MH × Int32) := (fX_sameWeights_3 n h a_0 a_1 a_2 i_3 (0:Int32))
set_option maxRecDepth 20000 in
set_option maxHeartbeats 4000000 in
theorem sX_sameWeights {g : Gh} {h' : MH} {r' : Int32} {n : Nat} {h : MH} {a_0 : Nat} {a_1 : Nat} {a_2 : Nat} {i_3 : Int32} (hf : fX_sameWeights n h a_0 a_1 a_2 i_3 = some (h', r')) : Sp g yX_sameWeights cX_sameWeights 5 (some .boolean) rmX_sameWeights h [.ref a_0, .ref a_1, .ref a_2, .int i_3] h' (some (.int r')) := by
  refine sp_of (by decide) (Nat.le_of_ble_eq_true rfl) ?_
  change V g yX_sameWeights cX_sameWeights 5 (some .boolean) rmX_sameWeights (ZQ g rmX_sameWeights h' (some (.int r'))) 0 0 h 0 [some (.ref a_0), some (.ref a_1), some (.ref a_2), some (.int i_3), none] []
  unfold fX_sameWeights at hf
  refine v_iconst (pc := 0) (0:Int32) dX_sameWeights_0 rfl ?_
  refine v_istore (pc := 1) (ls' := [some (.ref a_0), some (.ref a_1), some (.ref a_2), some (.int i_3), some (.int (0:Int32))]) dX_sameWeights_1 (by decide) rfl ?_
  refine v_wk (ls' := [some (.ref a_0), some (.ref a_1), some (.ref a_2), some (.int i_3), some (.int (0:Int32))]) ⟨rfl, rfl, rfl, rfl, rfl, trivial⟩ ?_
  exact tX_sameWeights_3 n h a_0 a_1 a_2 i_3 (0:Int32) hf
abbrev rmX_alike : Room := { frames := 1, cells := 0, slots := 0, locals := 24 }
def fX_alike_54 (n : Nat) (h : MH) (x0 : Nat) : Option (MH × Int32) := ((chk h x0 11).bind fun _ => (bnd2 (fX_found h x0 (1:Int32)) fun h1 i2 => (some (h1, i2))))
set_option maxRecDepth 20000 in
set_option maxHeartbeats 4000000 in
theorem tX_alike_54 {g : Gh} {h' : MH} {r' : Int32} (n : Nat) (h : MH) (x0 : Nat) (hf : fX_alike_54 n h x0 = some (h', r')) : V g yX_alike cX_alike 6 (some .int) rmX_alike (ZQ g rmX_alike h' (some (.int r'))) 0 0 h 54 [some (.ref x0), none, none, none, none, none] [] := by
  unfold fX_alike_54 at hf
  refine v_aload_n (i := 0) (pc := 54) dX_alike_54 rfl rfl ?_
  refine v_iconst (pc := 55) (1:Int32) dX_alike_55 rfl ?_
  obtain ⟨u4, cu4, hf⟩ := bnd hf
  obtain ⟨h1, i2, e3, hf⟩ := bndp hf
  refine v_M1 (pc := 56) (As := [.int (1:Int32)]) (rest := []) lmX_72 cu4 (sX_found e3) ⟨Nat.le_of_ble_eq_true rfl, Nat.le_of_ble_eq_true rfl, Nat.le_of_ble_eq_true rfl, Nat.le_of_ble_eq_true rfl⟩ dX_alike_56 rfl rfl (Nat.le_of_ble_eq_true rfl) ?_
  exact v_iret (pc := 59) dX_alike_59 (by decide) (by decide) hf
def fX_alike_84 (n : Nat) (h : MH) (s0 : Int32) (s1 : Nat) : Option (MH × Int32) := ((chk h s1 11).bind fun _ => (bnd2 (fX_well h s1 s0) fun h1 i2 => (some (h1, i2))))
set_option maxRecDepth 20000 in
set_option maxHeartbeats 4000000 in
theorem tX_alike_84 {g : Gh} {h' : MH} {r' : Int32} (n : Nat) (h : MH) (s0 : Int32) (s1 : Nat) (hf : fX_alike_84 n h s0 s1 = some (h', r')) : V g yX_alike cX_alike 6 (some .int) rmX_alike (ZQ g rmX_alike h' (some (.int r'))) 0 0 h 84 [none, none, none, none, none, none] [.int s0, .ref s1] := by
  unfold fX_alike_84 at hf
  obtain ⟨u4, cu4, hf⟩ := bnd hf
  obtain ⟨h1, i2, e3, hf⟩ := bndp hf
  refine v_M1 (pc := 84) (As := [.int s0]) (rest := []) lmX_80 cu4 (sX_well e3) ⟨Nat.le_of_ble_eq_true rfl, Nat.le_of_ble_eq_true rfl, Nat.le_of_ble_eq_true rfl, Nat.le_of_ble_eq_true rfl⟩ dX_alike_84 rfl rfl (Nat.le_of_ble_eq_true rfl) ?_
  exact v_iret (pc := 87) dX_alike_87 (by decide) (by decide) hf
def fX_alike (n : Nat) (h : MH) (a_0 : Nat) (i_1 : Int32) (i_2 : Int32) (i_3 : Int32) : Option (MH × Int32) := (bnd2 (fX_noPlace n h i_1) fun h1 i2 => (if i2 = (0:Int32) then (bnd2 (fX_noPlace n h1 i_2) fun h3 i4 => (if i4 = (0:Int32) then (if i_3 < (1:Int32) then (some (h3, (-1000001:Int32))) else (if i_3 ≤ (6:Int32) then ((gfR h3 a_0 [11] 6).bind fun a5 => (rdRn h3 a5 4 i_1 ((gfR h3 a_0 [11] 6).bind fun a15 => (rdRn h3 a15 4 i_2 (fX_alike_54 n h3 a_0) fun a16 => (fX_alike_54 n h3 a_0))) fun a6 => ((gfR h3 a_0 [11] 6).bind fun a7 => (rdRn h3 a7 4 i_2 (fX_alike_54 n h3 a_0) fun a8 => ((gfR h3 a6 [8, 1, 2, 4] 1).bind fun a9 => ((gfR h3 a8 [8, 1, 2, 4] 1).bind fun a10 => ((chk h3 a_0 11).bind fun _ => (bnd2 (fX_sameWeights n h3 a_0 a9 a10 i_3) fun h11 i12 => (if i12 = (0:Int32) then (fX_alike_84 n h11 (0:Int32) a_0) else (fX_alike_84 n h11 (1:Int32) a_0)))))))))) else (some (h3, (-1000001:Int32))))) else (some (h3, (-1000001:Int32))))) else (some (h1, (-1000001:Int32)))))
set_option maxRecDepth 20000 in
set_option maxHeartbeats 4000000 in
theorem sX_alike {g : Gh} {h' : MH} {r' : Int32} {n : Nat} {h : MH} {a_0 : Nat} {i_1 : Int32} {i_2 : Int32} {i_3 : Int32} (hf : fX_alike n h a_0 i_1 i_2 i_3 = some (h', r')) : Sp g yX_alike cX_alike 6 (some .int) rmX_alike h [.ref a_0, .int i_1, .int i_2, .int i_3] h' (some (.int r')) := by
  refine sp_of (by decide) (Nat.le_of_ble_eq_true rfl) ?_
  change V g yX_alike cX_alike 6 (some .int) rmX_alike (ZQ g rmX_alike h' (some (.int r'))) 0 0 h 0 [some (.ref a_0), some (.int i_1), some (.int i_2), some (.int i_3), none, none] []
  unfold fX_alike at hf
  refine v_iload_n (i := 1) (pc := 0) dX_alike_0 rfl rfl ?_
  obtain ⟨h1, i2, e18, hf⟩ := bndp hf
  refine v_S1 (pc := 1) (As := [.int i_1]) (rest := []) lsX_143 (sX_noPlace e18) ⟨Nat.le_of_ble_eq_true rfl, Nat.le_of_ble_eq_true rfl, Nat.le_of_ble_eq_true rfl, Nat.le_of_ble_eq_true rfl⟩ dX_alike_1 rfl rfl (Nat.le_of_ble_eq_true rfl) ?_
  refine v_if_ne (pc := 4) (tgt := 25) dX_alike_4 rfl hf (fun hf => ?_) (fun hf => ?_)
  rotate_left
  · refine v_ldc (pc := 25) dX_alike_25 kiX_71 ?_
    exact v_iret (pc := 27) dX_alike_27 (by decide) (by decide) hf
  refine v_iload_n (i := 2) (pc := 7) dX_alike_7 rfl rfl ?_
  obtain ⟨h3, i4, e17, hf⟩ := bndp hf
  refine v_S1 (pc := 8) (As := [.int i_2]) (rest := []) lsX_143 (sX_noPlace e17) ⟨Nat.le_of_ble_eq_true rfl, Nat.le_of_ble_eq_true rfl, Nat.le_of_ble_eq_true rfl, Nat.le_of_ble_eq_true rfl⟩ dX_alike_8 rfl rfl (Nat.le_of_ble_eq_true rfl) ?_
  refine v_if_ne (pc := 11) (tgt := 25) dX_alike_11 rfl hf (fun hf => ?_) (fun hf => ?_)
  rotate_left
  · refine v_ldc (pc := 25) dX_alike_25 kiX_71 ?_
    exact v_iret (pc := 27) dX_alike_27 (by decide) (by decide) hf
  refine v_iload_n (i := 3) (pc := 14) dX_alike_14 rfl rfl ?_
  refine v_iconst (pc := 15) (1:Int32) dX_alike_15 rfl ?_
  refine v_icmp_lt (pc := 16) (tgt := 25) dX_alike_16 rfl hf (fun hf => ?_) (fun hf => ?_)
  · refine v_ldc (pc := 25) dX_alike_25 kiX_71 ?_
    exact v_iret (pc := 27) dX_alike_27 (by decide) (by decide) hf
  refine v_iload_n (i := 3) (pc := 19) dX_alike_19 rfl rfl ?_
  refine v_bipush (pc := 20) (6:Int32) dX_alike_20 rfl ?_
  refine v_icmp_le (pc := 22) (tgt := 28) dX_alike_22 rfl hf (fun hf => ?_) (fun hf => ?_)
  rotate_left
  · refine v_ldc (pc := 25) dX_alike_25 kiX_71 ?_
    exact v_iret (pc := 27) dX_alike_27 (by decide) (by decide) hf
  refine v_aload_n (i := 0) (pc := 28) dX_alike_28 rfl rfl ?_
  refine v_getR (pc := 29) fgX_59 dX_alike_29 hf (fun a5 hf => ?_)
  refine v_iload_n (i := 1) (pc := 32) dX_alike_32 rfl rfl ?_
  refine v_aald (pc := 33) (Or.inr (Or.inr rfl)) dX_alike_33 hf (fun hf => ?_) (fun a6 hf => ?_)
  · refine v_astoreN (pc := 34) (ls' := [some (.ref a_0), some (.int i_1), some (.int i_2), some (.int i_3), some (.null), none]) dX_alike_34 (by decide) rfl ?_
    refine v_aload_n (i := 0) (pc := 36) dX_alike_36 rfl rfl ?_
    refine v_getR (pc := 37) fgX_59 dX_alike_37 hf (fun a15 hf => ?_)
    refine v_iload_n (i := 2) (pc := 40) dX_alike_40 rfl rfl ?_
    refine v_aald (pc := 41) (Or.inr (Or.inr rfl)) dX_alike_41 hf (fun hf => ?_) (fun a16 hf => ?_)
    · refine v_astoreN (pc := 42) (ls' := [some (.ref a_0), some (.int i_1), some (.int i_2), some (.int i_3), some (.null), some (.null)]) dX_alike_42 (by decide) rfl ?_
      refine v_aloadN (pc := 44) dX_alike_44 rfl ?_
      refine v_ifnullN (pc := 46) (tgt := 54) dX_alike_46 rfl ?_
      refine v_wk (ls' := [some (.ref a_0), none, none, none, none, none]) ⟨rfl, trivial⟩ ?_
      exact tX_alike_54 n h3 a_0 hf
    refine v_astore (pc := 42) (ls' := [some (.ref a_0), some (.int i_1), some (.int i_2), some (.int i_3), some (.null), some (.ref a16)]) dX_alike_42 (by decide) rfl ?_
    refine v_aloadN (pc := 44) dX_alike_44 rfl ?_
    refine v_ifnullN (pc := 46) (tgt := 54) dX_alike_46 rfl ?_
    refine v_wk (ls' := [some (.ref a_0), none, none, none, none, none]) ⟨rfl, trivial⟩ ?_
    exact tX_alike_54 n h3 a_0 hf
  refine v_astore (pc := 34) (ls' := [some (.ref a_0), some (.int i_1), some (.int i_2), some (.int i_3), some (.ref a6), none]) dX_alike_34 (by decide) rfl ?_
  refine v_aload_n (i := 0) (pc := 36) dX_alike_36 rfl rfl ?_
  refine v_getR (pc := 37) fgX_59 dX_alike_37 hf (fun a7 hf => ?_)
  refine v_iload_n (i := 2) (pc := 40) dX_alike_40 rfl rfl ?_
  refine v_aald (pc := 41) (Or.inr (Or.inr rfl)) dX_alike_41 hf (fun hf => ?_) (fun a8 hf => ?_)
  · refine v_astoreN (pc := 42) (ls' := [some (.ref a_0), some (.int i_1), some (.int i_2), some (.int i_3), some (.ref a6), some (.null)]) dX_alike_42 (by decide) rfl ?_
    refine v_aload (pc := 44) dX_alike_44 rfl ?_
    refine v_ifnull (pc := 46) dX_alike_46 ?_
    refine v_aloadN (pc := 49) dX_alike_49 rfl ?_
    refine v_ifnonnullN (pc := 51) dX_alike_51 ?_
    refine v_wk (ls' := [some (.ref a_0), none, none, none, none, none]) ⟨rfl, trivial⟩ ?_
    exact tX_alike_54 n h3 a_0 hf
  refine v_astore (pc := 42) (ls' := [some (.ref a_0), some (.int i_1), some (.int i_2), some (.int i_3), some (.ref a6), some (.ref a8)]) dX_alike_42 (by decide) rfl ?_
  refine v_aload (pc := 44) dX_alike_44 rfl ?_
  refine v_ifnull (pc := 46) dX_alike_46 ?_
  refine v_aload (pc := 49) dX_alike_49 rfl ?_
  refine v_ifnonnull (pc := 51) (tgt := 60) dX_alike_51 rfl ?_
  refine v_aload_n (i := 0) (pc := 60) dX_alike_60 rfl rfl ?_
  refine v_aload_n (i := 0) (pc := 61) dX_alike_61 rfl rfl ?_
  refine v_aload (pc := 62) dX_alike_62 rfl ?_
  refine v_getR (pc := 64) fgX_217 dX_alike_64 hf (fun a9 hf => ?_)
  refine v_aload (pc := 67) dX_alike_67 rfl ?_
  refine v_getR (pc := 69) fgX_217 dX_alike_69 hf (fun a10 hf => ?_)
  refine v_iload_n (i := 3) (pc := 72) dX_alike_72 rfl rfl ?_
  obtain ⟨u14, cu14, hf⟩ := bnd hf
  obtain ⟨h11, i12, e13, hf⟩ := bndp hf
  refine v_M1 (pc := 73) (As := [.ref a9, .ref a10, .int i_3]) (rest := [.ref a_0]) lmX_234 cu14 (sX_sameWeights e13) ⟨Nat.le_of_ble_eq_true rfl, Nat.le_of_ble_eq_true rfl, Nat.le_of_ble_eq_true rfl, Nat.le_of_ble_eq_true rfl⟩ dX_alike_73 rfl rfl (Nat.le_of_ble_eq_true rfl) ?_
  refine v_if_eq (pc := 76) (tgt := 83) dX_alike_76 rfl hf (fun hf => ?_) (fun hf => ?_)
  · refine v_iconst (pc := 83) (0:Int32) dX_alike_83 rfl ?_
    refine v_wk (ls' := [none, none, none, none, none, none]) trivial ?_
    exact tX_alike_84 n h11 (0:Int32) a_0 hf
  refine v_iconst (pc := 79) (1:Int32) dX_alike_79 rfl ?_
  refine v_goto (pc := 80) (tgt := 84) dX_alike_80 rfl ?_
  refine v_wk (ls' := [none, none, none, none, none, none]) trivial ?_
  exact tX_alike_84 n h11 (1:Int32) a_0 hf
abbrev rmX_sheetsThere : Room := { frames := 1, cells := 0, slots := 0, locals := 20 }
def fX_sheetsThere_25 (k4 : (MH × Nat × Int32 × Int32) → Option (MH × Int32)) (n : Nat) (h : MH) (x0 : Nat) (x1 : Int32) (x2 : Int32) : Option (MH × Int32) := (k4 (h, x0, x1, (x2 + (1:Int32))))
set_option maxRecDepth 20000 in
set_option maxHeartbeats 4000000 in
theorem tX_sheetsThere_25 {g : Gh} {h' : MH} {r' : Int32} {k4 : (MH × Nat × Int32 × Int32) → Option (MH × Int32)} (hk4 : ∀ (h : MH) (x0 : Nat) (x1 : Int32) (x2 : Int32), k4 (h, x0, x1, x2) = some (h', r') → V g yX_sheetsThere cX_sheetsThere 3 (some .int) rmX_sheetsThere (ZQ g rmX_sheetsThere h' (some (.int r'))) 0 0 h 4 [some (.ref x0), some (.int x1), some (.int x2)] []) (n : Nat) (h : MH) (x0 : Nat) (x1 : Int32) (x2 : Int32) (hf : fX_sheetsThere_25 k4 n h x0 x1 x2 = some (h', r')) : V g yX_sheetsThere cX_sheetsThere 3 (some .int) rmX_sheetsThere (ZQ g rmX_sheetsThere h' (some (.int r'))) 0 0 h 25 [some (.ref x0), some (.int x1), some (.int x2)] [] := by
  unfold fX_sheetsThere_25 at hf
  refine v_iinc (pc := 25) (v := (x2 + (1:Int32))) (ls' := [some (.ref x0), some (.int x1), some (.int (x2 + (1:Int32)))]) dX_sheetsThere_25 rfl rfl (by decide) rfl ?_
  refine v_goto (pc := 28) (tgt := 4) dX_sheetsThere_28 rfl ?_
  refine v_wk (ls' := [some (.ref x0), some (.int x1), some (.int (x2 + (1:Int32)))]) ⟨rfl, rfl, rfl, trivial⟩ ?_
  exact hk4 h x0 x1 (x2 + (1:Int32)) hf
def bX_sheetsThere_4 (n : Nat) (k4 : (MH × Nat × Int32 × Int32) → Option (MH × Int32)) (h : MH) (x0 : Nat) (x1 : Int32) (x2 : Int32) : Option (MH × Int32) := (if (8:Int32) ≤ x2 then (some (h, x1)) else ((gfR h x0 [11] 5).bind fun a1 => (rdRn h a1 3 x2 (none : Option (MH × Int32)) fun a2 => ((chk h a2 6).bind fun _ => (bnd2 (fSt_missing h a2) fun h3 i4 => (if i4 = (0:Int32) then (fX_sheetsThere_25 k4 n h3 x0 (x1 + (1:Int32)) x2) else (fX_sheetsThere_25 k4 n h3 x0 x1 x2)))))))
def fX_sheetsThere_4 (n : Nat) (h : MH) (x0 : Nat) (x1 : Int32) (x2 : Int32) : Option (MH × Int32) := lp (fun n k s => bX_sheetsThere_4 n k s.1 s.2.1 s.2.2.1 s.2.2.2) n (h, x0, x1, x2)
set_option maxRecDepth 20000 in
set_option maxHeartbeats 4000000 in
theorem tX_sheetsThere_4 {g : Gh} {h' : MH} {r' : Int32} (n : Nat) (h : MH) (x0 : Nat) (x1 : Int32) (x2 : Int32) (hf : fX_sheetsThere_4 n h x0 x1 x2 = some (h', r')) : V g yX_sheetsThere cX_sheetsThere 3 (some .int) rmX_sheetsThere (ZQ g rmX_sheetsThere h' (some (.int r'))) 0 0 h 4 [some (.ref x0), some (.int x1), some (.int x2)] [] := by
  unfold fX_sheetsThere_4 at hf
  refine lp_ind (P := fun s => V g yX_sheetsThere cX_sheetsThere 3 (some .int) rmX_sheetsThere (ZQ g rmX_sheetsThere h' (some (.int r'))) 0 0 s.1 4 [some (.ref s.2.1), some (.int s.2.2.1), some (.int s.2.2.2)] []) (fun n k4 hk4 s hf => ?_) n (h, x0, x1, x2) hf
  obtain ⟨h, x0, x1, x2⟩ := s
  replace hk4 : ∀ (h : MH) (x0 : Nat) (x1 : Int32) (x2 : Int32), k4 (h, x0, x1, x2) = some (h', r') → V g yX_sheetsThere cX_sheetsThere 3 (some .int) rmX_sheetsThere (ZQ g rmX_sheetsThere h' (some (.int r'))) 0 0 h 4 [some (.ref x0), some (.int x1), some (.int x2)] [] := fun h x0 x1 x2 => hk4 (h, x0, x1, x2)
  replace hf : bX_sheetsThere_4 n k4 h x0 x1 x2 = some (h', r') := hf
  change V g yX_sheetsThere cX_sheetsThere 3 (some .int) rmX_sheetsThere (ZQ g rmX_sheetsThere h' (some (.int r'))) 0 0 h 4 [some (.ref x0), some (.int x1), some (.int x2)] []
  unfold bX_sheetsThere_4 at hf
  refine v_iload_n (i := 2) (pc := 4) dX_sheetsThere_4 rfl rfl ?_
  refine v_bipush (pc := 5) (8:Int32) dX_sheetsThere_5 rfl ?_
  refine v_icmp_ge (pc := 7) (tgt := 31) dX_sheetsThere_7 rfl hf (fun hf => ?_) (fun hf => ?_)
  · refine v_iload_n (i := 1) (pc := 31) dX_sheetsThere_31 rfl rfl ?_
    exact v_iret (pc := 32) dX_sheetsThere_32 (by decide) (by decide) hf
  refine v_aload_n (i := 0) (pc := 10) dX_sheetsThere_10 rfl rfl ?_
  refine v_getR (pc := 11) fgX_52 dX_sheetsThere_11 hf (fun a1 hf => ?_)
  refine v_iload_n (i := 2) (pc := 14) dX_sheetsThere_14 rfl rfl ?_
  refine v_aald (pc := 15) (Or.inr (Or.inl rfl)) dX_sheetsThere_15 hf (fun hf => ?_) (fun a2 hf => ?_)
  · cases hf
  obtain ⟨u6, cu6, hf⟩ := bnd hf
  obtain ⟨h3, i4, e5, hf⟩ := bndp hf
  refine v_M1 (pc := 16) (As := []) (rest := []) lmX_85 cu6 (sSt_missing e5) ⟨Nat.le_of_ble_eq_true rfl, Nat.le_of_ble_eq_true rfl, Nat.le_of_ble_eq_true rfl, Nat.le_of_ble_eq_true rfl⟩ dX_sheetsThere_16 rfl rfl (Nat.le_of_ble_eq_true rfl) ?_
  refine v_if_ne (pc := 19) (tgt := 25) dX_sheetsThere_19 rfl hf (fun hf => ?_) (fun hf => ?_)
  rotate_left
  · refine v_wk (ls' := [some (.ref x0), some (.int x1), some (.int x2)]) ⟨rfl, rfl, rfl, trivial⟩ ?_
    exact tX_sheetsThere_25 hk4 n h3 x0 x1 x2 hf
  refine v_iinc (pc := 22) (v := (x1 + (1:Int32))) (ls' := [some (.ref x0), some (.int (x1 + (1:Int32))), some (.int x2)]) dX_sheetsThere_22 rfl rfl (by decide) rfl ?_
  refine v_wk (ls' := [some (.ref x0), some (.int (x1 + (1:Int32))), some (.int x2)]) ⟨rfl, rfl, rfl, trivial⟩ ?_
  exact tX_sheetsThere_25 hk4 n h3 x0 (x1 + (1:Int32)) x2 hf
def fX_sheetsThere (n : Nat) (h : MH) (a_0 : Nat) : Option (MH × Int32) := (fX_sheetsThere_4 n h a_0 (0:Int32) (0:Int32))
set_option maxRecDepth 20000 in
set_option maxHeartbeats 4000000 in
theorem sX_sheetsThere {g : Gh} {h' : MH} {r' : Int32} {n : Nat} {h : MH} {a_0 : Nat} (hf : fX_sheetsThere n h a_0 = some (h', r')) : Sp g yX_sheetsThere cX_sheetsThere 3 (some .int) rmX_sheetsThere h [.ref a_0] h' (some (.int r')) := by
  refine sp_of (by decide) (Nat.le_of_ble_eq_true rfl) ?_
  change V g yX_sheetsThere cX_sheetsThere 3 (some .int) rmX_sheetsThere (ZQ g rmX_sheetsThere h' (some (.int r'))) 0 0 h 0 [some (.ref a_0), none, none] []
  unfold fX_sheetsThere at hf
  refine v_iconst (pc := 0) (0:Int32) dX_sheetsThere_0 rfl ?_
  refine v_istore_n (i := 1) (pc := 1) (ls' := [some (.ref a_0), some (.int (0:Int32)), none]) dX_sheetsThere_1 rfl (by decide) rfl ?_
  refine v_iconst (pc := 2) (0:Int32) dX_sheetsThere_2 rfl ?_
  refine v_istore_n (i := 2) (pc := 3) (ls' := [some (.ref a_0), some (.int (0:Int32)), some (.int (0:Int32))]) dX_sheetsThere_3 rfl (by decide) rfl ?_
  refine v_wk (ls' := [some (.ref a_0), some (.int (0:Int32)), some (.int (0:Int32))]) ⟨rfl, rfl, rfl, trivial⟩ ?_
  exact tX_sheetsThere_4 n h a_0 (0:Int32) (0:Int32) hf
abbrev rmX_tablesOf : Room := { frames := 1, cells := 0, slots := 0, locals := 21 }
def fX_tablesOf_26 (k4 : (MH × Nat × Int32 × Int32 × Int32) → Option (MH × Int32)) (n : Nat) (h : MH) (x0 : Nat) (x1 : Int32) (x2 : Int32) (x3 : Int32) : Option (MH × Int32) := (k4 (h, x0, x1, x2, (x3 + (1:Int32))))
set_option maxRecDepth 20000 in
set_option maxHeartbeats 4000000 in
theorem tX_tablesOf_26 {g : Gh} {h' : MH} {r' : Int32} {k4 : (MH × Nat × Int32 × Int32 × Int32) → Option (MH × Int32)} (hk4 : ∀ (h : MH) (x0 : Nat) (x1 : Int32) (x2 : Int32) (x3 : Int32), k4 (h, x0, x1, x2, x3) = some (h', r') → V g yX_tablesOf cX_tablesOf 4 (some .int) rmX_tablesOf (ZQ g rmX_tablesOf h' (some (.int r'))) 0 0 h 4 [some (.ref x0), some (.int x1), some (.int x2), some (.int x3)] []) (n : Nat) (h : MH) (x0 : Nat) (x1 : Int32) (x2 : Int32) (x3 : Int32) (hf : fX_tablesOf_26 k4 n h x0 x1 x2 x3 = some (h', r')) : V g yX_tablesOf cX_tablesOf 4 (some .int) rmX_tablesOf (ZQ g rmX_tablesOf h' (some (.int r'))) 0 0 h 26 [some (.ref x0), some (.int x1), some (.int x2), some (.int x3)] [] := by
  unfold fX_tablesOf_26 at hf
  refine v_iinc (pc := 26) (v := (x3 + (1:Int32))) (ls' := [some (.ref x0), some (.int x1), some (.int x2), some (.int (x3 + (1:Int32)))]) dX_tablesOf_26 rfl rfl (by decide) rfl ?_
  refine v_goto (pc := 29) (tgt := 4) dX_tablesOf_29 rfl ?_
  refine v_wk (ls' := [some (.ref x0), some (.int x1), some (.int x2), some (.int (x3 + (1:Int32)))]) ⟨rfl, rfl, rfl, rfl, trivial⟩ ?_
  exact hk4 h x0 x1 x2 (x3 + (1:Int32)) hf
def bX_tablesOf_4 (n : Nat) (k4 : (MH × Nat × Int32 × Int32 × Int32) → Option (MH × Int32)) (h : MH) (x0 : Nat) (x1 : Int32) (x2 : Int32) (x3 : Int32) : Option (MH × Int32) := (if (10:Int32) ≤ x3 then (some (h, x2)) else ((gfR h x0 [11] 6).bind fun a1 => (rdRn h a1 4 x3 (bnd2 (fX_belongs h none x1) fun h6 i7 => (if i7 = (0:Int32) then (fX_tablesOf_26 k4 n h6 x0 x1 x2 x3) else (fX_tablesOf_26 k4 n h6 x0 x1 (x2 + (1:Int32)) x3))) fun a2 => (bnd2 (fX_belongs h (some a2) x1) fun h3 i4 => (if i4 = (0:Int32) then (fX_tablesOf_26 k4 n h3 x0 x1 x2 x3) else (fX_tablesOf_26 k4 n h3 x0 x1 (x2 + (1:Int32)) x3))))))
def fX_tablesOf_4 (n : Nat) (h : MH) (x0 : Nat) (x1 : Int32) (x2 : Int32) (x3 : Int32) : Option (MH × Int32) := lp (fun n k s => bX_tablesOf_4 n k s.1 s.2.1 s.2.2.1 s.2.2.2.1 s.2.2.2.2) n (h, x0, x1, x2, x3)
set_option maxRecDepth 20000 in
set_option maxHeartbeats 4000000 in
theorem tX_tablesOf_4 {g : Gh} {h' : MH} {r' : Int32} (n : Nat) (h : MH) (x0 : Nat) (x1 : Int32) (x2 : Int32) (x3 : Int32) (hf : fX_tablesOf_4 n h x0 x1 x2 x3 = some (h', r')) : V g yX_tablesOf cX_tablesOf 4 (some .int) rmX_tablesOf (ZQ g rmX_tablesOf h' (some (.int r'))) 0 0 h 4 [some (.ref x0), some (.int x1), some (.int x2), some (.int x3)] [] := by
  unfold fX_tablesOf_4 at hf
  refine lp_ind (P := fun s => V g yX_tablesOf cX_tablesOf 4 (some .int) rmX_tablesOf (ZQ g rmX_tablesOf h' (some (.int r'))) 0 0 s.1 4 [some (.ref s.2.1), some (.int s.2.2.1), some (.int s.2.2.2.1), some (.int s.2.2.2.2)] []) (fun n k4 hk4 s hf => ?_) n (h, x0, x1, x2, x3) hf
  obtain ⟨h, x0, x1, x2, x3⟩ := s
  replace hk4 : ∀ (h : MH) (x0 : Nat) (x1 : Int32) (x2 : Int32) (x3 : Int32), k4 (h, x0, x1, x2, x3) = some (h', r') → V g yX_tablesOf cX_tablesOf 4 (some .int) rmX_tablesOf (ZQ g rmX_tablesOf h' (some (.int r'))) 0 0 h 4 [some (.ref x0), some (.int x1), some (.int x2), some (.int x3)] [] := fun h x0 x1 x2 x3 => hk4 (h, x0, x1, x2, x3)
  replace hf : bX_tablesOf_4 n k4 h x0 x1 x2 x3 = some (h', r') := hf
  change V g yX_tablesOf cX_tablesOf 4 (some .int) rmX_tablesOf (ZQ g rmX_tablesOf h' (some (.int r'))) 0 0 h 4 [some (.ref x0), some (.int x1), some (.int x2), some (.int x3)] []
  unfold bX_tablesOf_4 at hf
  refine v_iload_n (i := 3) (pc := 4) dX_tablesOf_4 rfl rfl ?_
  refine v_bipush (pc := 5) (10:Int32) dX_tablesOf_5 rfl ?_
  refine v_icmp_ge (pc := 7) (tgt := 32) dX_tablesOf_7 rfl hf (fun hf => ?_) (fun hf => ?_)
  · refine v_iload_n (i := 2) (pc := 32) dX_tablesOf_32 rfl rfl ?_
    exact v_iret (pc := 33) dX_tablesOf_33 (by decide) (by decide) hf
  refine v_aload_n (i := 0) (pc := 10) dX_tablesOf_10 rfl rfl ?_
  refine v_getR (pc := 11) fgX_59 dX_tablesOf_11 hf (fun a1 hf => ?_)
  refine v_iload_n (i := 3) (pc := 14) dX_tablesOf_14 rfl rfl ?_
  refine v_aald (pc := 15) (Or.inr (Or.inr rfl)) dX_tablesOf_15 hf (fun hf => ?_) (fun a2 hf => ?_)
  · refine v_iload_n (i := 1) (pc := 16) dX_tablesOf_16 rfl rfl ?_
    obtain ⟨h6, i7, e8, hf⟩ := bndp hf
    refine v_S1 (pc := 17) (As := [.null, .int x1]) (rest := []) lsX_202 (sX_belongs e8) ⟨Nat.le_of_ble_eq_true rfl, Nat.le_of_ble_eq_true rfl, Nat.le_of_ble_eq_true rfl, Nat.le_of_ble_eq_true rfl⟩ dX_tablesOf_17 rfl rfl (Nat.le_of_ble_eq_true rfl) ?_
    refine v_if_eq (pc := 20) (tgt := 26) dX_tablesOf_20 rfl hf (fun hf => ?_) (fun hf => ?_)
    · refine v_wk (ls' := [some (.ref x0), some (.int x1), some (.int x2), some (.int x3)]) ⟨rfl, rfl, rfl, rfl, trivial⟩ ?_
      exact tX_tablesOf_26 hk4 n h6 x0 x1 x2 x3 hf
    refine v_iinc (pc := 23) (v := (x2 + (1:Int32))) (ls' := [some (.ref x0), some (.int x1), some (.int (x2 + (1:Int32))), some (.int x3)]) dX_tablesOf_23 rfl rfl (by decide) rfl ?_
    refine v_wk (ls' := [some (.ref x0), some (.int x1), some (.int (x2 + (1:Int32))), some (.int x3)]) ⟨rfl, rfl, rfl, rfl, trivial⟩ ?_
    exact tX_tablesOf_26 hk4 n h6 x0 x1 (x2 + (1:Int32)) x3 hf
  refine v_iload_n (i := 1) (pc := 16) dX_tablesOf_16 rfl rfl ?_
  obtain ⟨h3, i4, e5, hf⟩ := bndp hf
  refine v_S1 (pc := 17) (As := [.ref a2, .int x1]) (rest := []) lsX_202 (sX_belongs e5) ⟨Nat.le_of_ble_eq_true rfl, Nat.le_of_ble_eq_true rfl, Nat.le_of_ble_eq_true rfl, Nat.le_of_ble_eq_true rfl⟩ dX_tablesOf_17 rfl rfl (Nat.le_of_ble_eq_true rfl) ?_
  refine v_if_eq (pc := 20) (tgt := 26) dX_tablesOf_20 rfl hf (fun hf => ?_) (fun hf => ?_)
  · refine v_wk (ls' := [some (.ref x0), some (.int x1), some (.int x2), some (.int x3)]) ⟨rfl, rfl, rfl, rfl, trivial⟩ ?_
    exact tX_tablesOf_26 hk4 n h3 x0 x1 x2 x3 hf
  refine v_iinc (pc := 23) (v := (x2 + (1:Int32))) (ls' := [some (.ref x0), some (.int x1), some (.int (x2 + (1:Int32))), some (.int x3)]) dX_tablesOf_23 rfl rfl (by decide) rfl ?_
  refine v_wk (ls' := [some (.ref x0), some (.int x1), some (.int (x2 + (1:Int32))), some (.int x3)]) ⟨rfl, rfl, rfl, rfl, trivial⟩ ?_
  exact tX_tablesOf_26 hk4 n h3 x0 x1 (x2 + (1:Int32)) x3 hf
def fX_tablesOf (n : Nat) (h : MH) (a_0 : Nat) (i_1 : Int32) : Option (MH × Int32) := (fX_tablesOf_4 n h a_0 i_1 (0:Int32) (0:Int32))
set_option maxRecDepth 20000 in
set_option maxHeartbeats 4000000 in
theorem sX_tablesOf {g : Gh} {h' : MH} {r' : Int32} {n : Nat} {h : MH} {a_0 : Nat} {i_1 : Int32} (hf : fX_tablesOf n h a_0 i_1 = some (h', r')) : Sp g yX_tablesOf cX_tablesOf 4 (some .int) rmX_tablesOf h [.ref a_0, .int i_1] h' (some (.int r')) := by
  refine sp_of (by decide) (Nat.le_of_ble_eq_true rfl) ?_
  change V g yX_tablesOf cX_tablesOf 4 (some .int) rmX_tablesOf (ZQ g rmX_tablesOf h' (some (.int r'))) 0 0 h 0 [some (.ref a_0), some (.int i_1), none, none] []
  unfold fX_tablesOf at hf
  refine v_iconst (pc := 0) (0:Int32) dX_tablesOf_0 rfl ?_
  refine v_istore_n (i := 2) (pc := 1) (ls' := [some (.ref a_0), some (.int i_1), some (.int (0:Int32)), none]) dX_tablesOf_1 rfl (by decide) rfl ?_
  refine v_iconst (pc := 2) (0:Int32) dX_tablesOf_2 rfl ?_
  refine v_istore_n (i := 3) (pc := 3) (ls' := [some (.ref a_0), some (.int i_1), some (.int (0:Int32)), some (.int (0:Int32))]) dX_tablesOf_3 rfl (by decide) rfl ?_
  refine v_wk (ls' := [some (.ref a_0), some (.int i_1), some (.int (0:Int32)), some (.int (0:Int32))]) ⟨rfl, rfl, rfl, rfl, trivial⟩ ?_
  exact tX_tablesOf_4 n h a_0 i_1 (0:Int32) (0:Int32) hf
abbrev rmX_count : Room := { frames := 2, cells := 0, slots := 0, locals := 44 }
def fX_count (n : Nat) (h : MH) (a_0 : Nat) (i_1 : Int32) : Option (MH × Int32) := (if i_1 = (0:Int32) then ((chk h a_0 11).bind fun _ => (bnd2 (fX_sheetsThere n h a_0) fun h1 i2 => (some (h1, i2)))) else (if i_1 = (1:Int32) then ((chk h a_0 11).bind fun _ => (bnd2 (fX_tablesOf n h a_0 (0:Int32)) fun h5 i6 => (some (h5, i6)))) else (if i_1 = (2:Int32) then ((chk h a_0 11).bind fun _ => (bnd2 (fX_tablesOf n h a_0 (1:Int32)) fun h9 i10 => (some (h9, i10)))) else (if i_1 = (3:Int32) then ((chk h a_0 11).bind fun _ => (bnd2 (fX_tablesOf n h a_0 (2:Int32)) fun h13 i14 => (some (h13, i14)))) else (if i_1 = (4:Int32) then ((chk h a_0 11).bind fun _ => (bnd2 (fX_tablesOf n h a_0 (3:Int32)) fun h17 i18 => (some (h17, i18)))) else (if i_1 = (5:Int32) then ((gfR h a_0 [11] 0).bind fun a21 => ((gfL h a21 [3] 0).bind fun j22 => (some (h, j22.toInt32)))) else (some (h, (-1000001:Int32)))))))))
set_option maxRecDepth 20000 in
set_option maxHeartbeats 4000000 in
theorem sX_count {g : Gh} {h' : MH} {r' : Int32} {n : Nat} {h : MH} {a_0 : Nat} {i_1 : Int32} (hf : fX_count n h a_0 i_1 = some (h', r')) : Sp g yX_count cX_count 2 (some .int) rmX_count h [.ref a_0, .int i_1] h' (some (.int r')) := by
  refine sp_of (by decide) (Nat.le_of_ble_eq_true rfl) ?_
  change V g yX_count cX_count 2 (some .int) rmX_count (ZQ g rmX_count h' (some (.int r'))) 0 0 h 0 [some (.ref a_0), some (.int i_1)] []
  unfold fX_count at hf
  refine v_iload_n (i := 1) (pc := 0) dX_count_0 rfl rfl ?_
  by_cases e23 : i_1 = (0:Int32)
  · replace hf := if_t hf e23
    refine v_tswI (pc := 1) (tgt := 40) (off := 39) dX_count_1 (by rw [e23]; decide) (by rw [e23]; decide) (by rw [e23]; decide) rfl ?_
    refine v_aload_n (i := 0) (pc := 40) dX_count_40 rfl rfl ?_
    obtain ⟨u4, cu4, hf⟩ := bnd hf
    obtain ⟨h1, i2, e3, hf⟩ := bndp hf
    refine v_M1 (pc := 41) (As := []) (rest := []) lmX_238 cu4 (sX_sheetsThere e3) ⟨Nat.le_of_ble_eq_true rfl, Nat.le_of_ble_eq_true rfl, Nat.le_of_ble_eq_true rfl, Nat.le_of_ble_eq_true rfl⟩ dX_count_41 rfl rfl (Nat.le_of_ble_eq_true rfl) ?_
    exact v_iret (pc := 44) dX_count_44 (by decide) (by decide) hf
  replace hf := if_f hf e23
  by_cases e24 : i_1 = (1:Int32)
  · replace hf := if_t hf e24
    refine v_tswI (pc := 1) (tgt := 45) (off := 44) dX_count_1 (by rw [e24]; decide) (by rw [e24]; decide) (by rw [e24]; decide) rfl ?_
    refine v_aload_n (i := 0) (pc := 45) dX_count_45 rfl rfl ?_
    refine v_iconst (pc := 46) (0:Int32) dX_count_46 rfl ?_
    obtain ⟨u8, cu8, hf⟩ := bnd hf
    obtain ⟨h5, i6, e7, hf⟩ := bndp hf
    refine v_M1 (pc := 47) (As := [.int (0:Int32)]) (rest := []) lmX_241 cu8 (sX_tablesOf e7) ⟨Nat.le_of_ble_eq_true rfl, Nat.le_of_ble_eq_true rfl, Nat.le_of_ble_eq_true rfl, Nat.le_of_ble_eq_true rfl⟩ dX_count_47 rfl rfl (Nat.le_of_ble_eq_true rfl) ?_
    exact v_iret (pc := 50) dX_count_50 (by decide) (by decide) hf
  replace hf := if_f hf e24
  by_cases e25 : i_1 = (2:Int32)
  · replace hf := if_t hf e25
    refine v_tswI (pc := 1) (tgt := 51) (off := 50) dX_count_1 (by rw [e25]; decide) (by rw [e25]; decide) (by rw [e25]; decide) rfl ?_
    refine v_aload_n (i := 0) (pc := 51) dX_count_51 rfl rfl ?_
    refine v_iconst (pc := 52) (1:Int32) dX_count_52 rfl ?_
    obtain ⟨u12, cu12, hf⟩ := bnd hf
    obtain ⟨h9, i10, e11, hf⟩ := bndp hf
    refine v_M1 (pc := 53) (As := [.int (1:Int32)]) (rest := []) lmX_241 cu12 (sX_tablesOf e11) ⟨Nat.le_of_ble_eq_true rfl, Nat.le_of_ble_eq_true rfl, Nat.le_of_ble_eq_true rfl, Nat.le_of_ble_eq_true rfl⟩ dX_count_53 rfl rfl (Nat.le_of_ble_eq_true rfl) ?_
    exact v_iret (pc := 56) dX_count_56 (by decide) (by decide) hf
  replace hf := if_f hf e25
  by_cases e26 : i_1 = (3:Int32)
  · replace hf := if_t hf e26
    refine v_tswI (pc := 1) (tgt := 57) (off := 56) dX_count_1 (by rw [e26]; decide) (by rw [e26]; decide) (by rw [e26]; decide) rfl ?_
    refine v_aload_n (i := 0) (pc := 57) dX_count_57 rfl rfl ?_
    refine v_iconst (pc := 58) (2:Int32) dX_count_58 rfl ?_
    obtain ⟨u16, cu16, hf⟩ := bnd hf
    obtain ⟨h13, i14, e15, hf⟩ := bndp hf
    refine v_M1 (pc := 59) (As := [.int (2:Int32)]) (rest := []) lmX_241 cu16 (sX_tablesOf e15) ⟨Nat.le_of_ble_eq_true rfl, Nat.le_of_ble_eq_true rfl, Nat.le_of_ble_eq_true rfl, Nat.le_of_ble_eq_true rfl⟩ dX_count_59 rfl rfl (Nat.le_of_ble_eq_true rfl) ?_
    exact v_iret (pc := 62) dX_count_62 (by decide) (by decide) hf
  replace hf := if_f hf e26
  by_cases e27 : i_1 = (4:Int32)
  · replace hf := if_t hf e27
    refine v_tswI (pc := 1) (tgt := 63) (off := 62) dX_count_1 (by rw [e27]; decide) (by rw [e27]; decide) (by rw [e27]; decide) rfl ?_
    refine v_aload_n (i := 0) (pc := 63) dX_count_63 rfl rfl ?_
    refine v_iconst (pc := 64) (3:Int32) dX_count_64 rfl ?_
    obtain ⟨u20, cu20, hf⟩ := bnd hf
    obtain ⟨h17, i18, e19, hf⟩ := bndp hf
    refine v_M1 (pc := 65) (As := [.int (3:Int32)]) (rest := []) lmX_241 cu20 (sX_tablesOf e19) ⟨Nat.le_of_ble_eq_true rfl, Nat.le_of_ble_eq_true rfl, Nat.le_of_ble_eq_true rfl, Nat.le_of_ble_eq_true rfl⟩ dX_count_65 rfl rfl (Nat.le_of_ble_eq_true rfl) ?_
    exact v_iret (pc := 68) dX_count_68 (by decide) (by decide) hf
  replace hf := if_f hf e27
  by_cases e28 : i_1 = (5:Int32)
  · replace hf := if_t hf e28
    refine v_tswI (pc := 1) (tgt := 69) (off := 68) dX_count_1 (by rw [e28]; decide) (by rw [e28]; decide) (by rw [e28]; decide) rfl ?_
    refine v_aload_n (i := 0) (pc := 69) dX_count_69 rfl rfl ?_
    refine v_getR (pc := 70) fgX_12 dX_count_70 hf (fun a21 hf => ?_)
    refine v_getL (pc := 73) fgX_179 dX_count_73 hf (fun j22 hf => ?_)
    refine v_l2i (pc := 76) dX_count_76 ?_
    exact v_iret (pc := 77) dX_count_77 (by decide) (by decide) hf
  replace hf := if_f hf e28
  refine v_tswO (pc := 1) (tgt := 78) dX_count_1 (by have := lv_neT e23 (a := 0) (by decide); have := lv_neT e24 (a := 1) (by decide); have := lv_neT e25 (a := 2) (by decide); have := lv_neT e26 (a := 3) (by decide); have := lv_neT e27 (a := 4) (by decide); have := lv_neT e28 (a := 5) (by decide); omega) rfl ?_
  refine v_ldc (pc := 78) dX_count_78 kiX_71 ?_
  exact v_iret (pc := 80) dX_count_80 (by decide) (by decide) hf
abbrev rmX_status : Room := { frames := 0, cells := 0, slots := 0, locals := 0 }
def fX_status (h : MH) (a_0 : Nat) : Option (MH × Int32) := ((gfI h a_0 [11] 8).bind fun i1 => (some (h, i1)))
set_option maxRecDepth 20000 in
set_option maxHeartbeats 4000000 in
theorem sX_status {g : Gh} {h' : MH} {r' : Int32} {h : MH} {a_0 : Nat} (hf : fX_status h a_0 = some (h', r')) : Sp g yX_status cX_status 1 (some .int) rmX_status h [.ref a_0] h' (some (.int r')) := by
  refine sp_of (by decide) (Nat.le_of_ble_eq_true rfl) ?_
  change V g yX_status cX_status 1 (some .int) rmX_status (ZQ g rmX_status h' (some (.int r'))) 0 0 h 0 [some (.ref a_0)] []
  unfold fX_status at hf
  refine v_aload_n (i := 0) (pc := 0) dX_status_0 rfl rfl ?_
  refine v_getI (pc := 1) fgX_93 dX_status_1 hf (fun i1 hf => ?_)
  exact v_iret (pc := 4) dX_status_4 (by decide) (by decide) hf
abbrev rmM_in : Room := { frames := 0, cells := 0, slots := 0, locals := 0 }
def fM_in (h : MH) (j_0 : Int64) (j_1 : Int64) (j_2 : Int64) : Option (MH × Int32) := (if j_0 < j_1 then (retZ h (0:Int32)) else (if j_2 < j_0 then (retZ h (0:Int32)) else (retZ h (1:Int32))))
set_option maxRecDepth 20000 in
set_option maxHeartbeats 4000000 in
theorem sM_in {g : Gh} {h' : MH} {r' : Int32} {h : MH} {j_0 : Int64} {j_1 : Int64} {j_2 : Int64} (hf : fM_in h j_0 j_1 j_2 = some (h', r')) : Sp g yM_in cM_in 6 (some .boolean) rmM_in h [.long j_0, .long j_1, .long j_2] h' (some (.int r')) := by
  refine sp_of (by decide) (Nat.le_of_ble_eq_true rfl) ?_
  change V g yM_in cM_in 6 (some .boolean) rmM_in (ZQ g rmM_in h' (some (.int r'))) 0 0 h 0 [some (.long j_0), none, some (.long j_1), none, some (.long j_2), none] []
  unfold fM_in at hf
  refine v_lload_n (i := 0) (pc := 0) dM_in_0 rfl rfl ?_
  refine v_lload_n (i := 2) (pc := 1) dM_in_1 rfl rfl ?_
  refine v_lcmp_lt (pc := 2) (tgt := 17) dM_in_2 dM_in_3 rfl hf (fun hf => ?_) (fun hf => ?_)
  · refine v_iconst (pc := 17) (0:Int32) dM_in_17 rfl ?_
    exact v_zret (pc := 18) dM_in_18 (by decide) (by decide) hf
  refine v_lload_n (i := 0) (pc := 6) dM_in_6 rfl rfl ?_
  refine v_lload (pc := 7) dM_in_7 rfl ?_
  refine v_lcmp_gt (pc := 9) (tgt := 17) dM_in_9 dM_in_10 rfl hf (fun hf => ?_) (fun hf => ?_)
  · refine v_iconst (pc := 17) (0:Int32) dM_in_17 rfl ?_
    exact v_zret (pc := 18) dM_in_18 (by decide) (by decide) hf
  refine v_iconst (pc := 13) (1:Int32) dM_in_13 rfl ?_
  refine v_goto (pc := 14) (tgt := 18) dM_in_14 rfl ?_
  exact v_zret (pc := 18) dM_in_18 (by decide) (by decide) hf
abbrev rmM_found : Room := { frames := 0, cells := 0, slots := 0, locals := 0 }
def fM_found (h : MH) (a_0 : Nat) (i_1 : Int32) : Option (MH × Int32) := ((pf h a_0 [12] 1 (.int i_1)).bind fun h1 => (some (h1, ((-1000010:Int32) - i_1))))
set_option maxRecDepth 20000 in
set_option maxHeartbeats 4000000 in
theorem sM_found {g : Gh} {h' : MH} {r' : Int32} {h : MH} {a_0 : Nat} {i_1 : Int32} (hf : fM_found h a_0 i_1 = some (h', r')) : Sp g yM_found cM_found 2 (some .int) rmM_found h [.ref a_0, .int i_1] h' (some (.int r')) := by
  refine sp_of (by decide) (Nat.le_of_ble_eq_true rfl) ?_
  change V g yM_found cM_found 2 (some .int) rmM_found (ZQ g rmM_found h' (some (.int r'))) 0 0 h 0 [some (.ref a_0), some (.int i_1)] []
  unfold fM_found at hf
  refine v_aload_n (i := 0) (pc := 0) dM_found_0 rfl rfl ?_
  refine v_iload_n (i := 1) (pc := 1) dM_found_1 rfl rfl ?_
  refine v_put (pc := 2) fpM_7 (fun _ => ⟨rfl, rfl⟩) dM_found_2 hf (fun h1 hf => ?_)
  refine v_ldc (pc := 5) dM_found_5 kiM_10 ?_
  refine v_iload_n (i := 1) (pc := 7) dM_found_7 rfl rfl ?_
  refine v_isub (pc := 8) dM_found_8 ?_
  exact v_iret (pc := 9) dM_found_9 (by decide) (by decide) hf
abbrev rmM_isPrime : Room := { frames := 0, cells := 0, slots := 0, locals := 0 }
def fM_isPrime_39 (k13 : (MH × Int32 × Int32 × Int32) → Option (MH × Int32)) (n : Nat) (h : MH) (s0 : Int32) (x0 : Int32) (x2 : Int32) : Option (MH × Int32) := (k13 (h, x0, s0, (x2 + (1:Int32))))
set_option maxRecDepth 20000 in
set_option maxHeartbeats 4000000 in
theorem tM_isPrime_39 {g : Gh} {h' : MH} {r' : Int32} {k13 : (MH × Int32 × Int32 × Int32) → Option (MH × Int32)} (hk13 : ∀ (h : MH) (x0 : Int32) (x1 : Int32) (x2 : Int32), k13 (h, x0, x1, x2) = some (h', r') → V g yM_isPrime cM_isPrime 3 (some .boolean) rmM_isPrime (ZQ g rmM_isPrime h' (some (.int r'))) 0 0 h 13 [some (.int x0), some (.int x1), some (.int x2)] []) (n : Nat) (h : MH) (s0 : Int32) (x0 : Int32) (x2 : Int32) (hf : fM_isPrime_39 k13 n h s0 x0 x2 = some (h', r')) : V g yM_isPrime cM_isPrime 3 (some .boolean) rmM_isPrime (ZQ g rmM_isPrime h' (some (.int r'))) 0 0 h 39 [some (.int x0), none, some (.int x2)] [.int s0] := by
  unfold fM_isPrime_39 at hf
  refine v_istore_n (i := 1) (pc := 39) (ls' := [some (.int x0), some (.int s0), some (.int x2)]) dM_isPrime_39 rfl (by decide) rfl ?_
  refine v_iinc (pc := 40) (v := (x2 + (1:Int32))) (ls' := [some (.int x0), some (.int s0), some (.int (x2 + (1:Int32)))]) dM_isPrime_40 rfl rfl (by decide) rfl ?_
  refine v_goto (pc := 43) (tgt := 13) dM_isPrime_43 rfl ?_
  refine v_wk (ls' := [some (.int x0), some (.int s0), some (.int (x2 + (1:Int32)))]) ⟨rfl, rfl, rfl, trivial⟩ ?_
  exact hk13 h x0 s0 (x2 + (1:Int32)) hf
def bM_isPrime_13 (n : Nat) (k13 : (MH × Int32 × Int32 × Int32) → Option (MH × Int32)) (h : MH) (x0 : Int32) (x1 : Int32) (x2 : Int32) : Option (MH × Int32) := (if x0.toInt64 < (x2.toInt64 * x2.toInt64) then (retZ h x1) else (if x1 = (0:Int32) then (retZ h x1) else (nzI x2 (if (irm x0 x2) = (0:Int32) then (fM_isPrime_39 k13 n h (0:Int32) x0 x2) else (fM_isPrime_39 k13 n h (1:Int32) x0 x2)))))
def fM_isPrime_13 (n : Nat) (h : MH) (x0 : Int32) (x1 : Int32) (x2 : Int32) : Option (MH × Int32) := lp (fun n k s => bM_isPrime_13 n k s.1 s.2.1 s.2.2.1 s.2.2.2) n (h, x0, x1, x2)
set_option maxRecDepth 20000 in
set_option maxHeartbeats 4000000 in
theorem tM_isPrime_13 {g : Gh} {h' : MH} {r' : Int32} (n : Nat) (h : MH) (x0 : Int32) (x1 : Int32) (x2 : Int32) (hf : fM_isPrime_13 n h x0 x1 x2 = some (h', r')) : V g yM_isPrime cM_isPrime 3 (some .boolean) rmM_isPrime (ZQ g rmM_isPrime h' (some (.int r'))) 0 0 h 13 [some (.int x0), some (.int x1), some (.int x2)] [] := by
  unfold fM_isPrime_13 at hf
  refine lp_ind (P := fun s => V g yM_isPrime cM_isPrime 3 (some .boolean) rmM_isPrime (ZQ g rmM_isPrime h' (some (.int r'))) 0 0 s.1 13 [some (.int s.2.1), some (.int s.2.2.1), some (.int s.2.2.2)] []) (fun n k13 hk13 s hf => ?_) n (h, x0, x1, x2) hf
  obtain ⟨h, x0, x1, x2⟩ := s
  replace hk13 : ∀ (h : MH) (x0 : Int32) (x1 : Int32) (x2 : Int32), k13 (h, x0, x1, x2) = some (h', r') → V g yM_isPrime cM_isPrime 3 (some .boolean) rmM_isPrime (ZQ g rmM_isPrime h' (some (.int r'))) 0 0 h 13 [some (.int x0), some (.int x1), some (.int x2)] [] := fun h x0 x1 x2 => hk13 (h, x0, x1, x2)
  replace hf : bM_isPrime_13 n k13 h x0 x1 x2 = some (h', r') := hf
  change V g yM_isPrime cM_isPrime 3 (some .boolean) rmM_isPrime (ZQ g rmM_isPrime h' (some (.int r'))) 0 0 h 13 [some (.int x0), some (.int x1), some (.int x2)] []
  unfold bM_isPrime_13 at hf
  refine v_iload_n (i := 2) (pc := 13) dM_isPrime_13 rfl rfl ?_
  refine v_i2l (pc := 14) dM_isPrime_14 ?_
  refine v_iload_n (i := 2) (pc := 15) dM_isPrime_15 rfl rfl ?_
  refine v_i2l (pc := 16) dM_isPrime_16 ?_
  refine v_lmul (pc := 17) dM_isPrime_17 ?_
  refine v_iload_n (i := 0) (pc := 18) dM_isPrime_18 rfl rfl ?_
  refine v_i2l (pc := 19) dM_isPrime_19 ?_
  refine v_lcmp_gt (pc := 20) (tgt := 46) dM_isPrime_20 dM_isPrime_21 rfl hf (fun hf => ?_) (fun hf => ?_)
  · refine v_iload_n (i := 1) (pc := 46) dM_isPrime_46 rfl rfl ?_
    exact v_zret (pc := 47) dM_isPrime_47 (by decide) (by decide) hf
  refine v_iload_n (i := 1) (pc := 24) dM_isPrime_24 rfl rfl ?_
  refine v_if_eq (pc := 25) (tgt := 46) dM_isPrime_25 rfl hf (fun hf => ?_) (fun hf => ?_)
  · refine v_iload_n (i := 1) (pc := 46) dM_isPrime_46 rfl rfl ?_
    exact v_zret (pc := 47) dM_isPrime_47 (by decide) (by decide) hf
  refine v_iload_n (i := 0) (pc := 28) dM_isPrime_28 rfl rfl ?_
  refine v_iload_n (i := 2) (pc := 29) dM_isPrime_29 rfl rfl ?_
  obtain ⟨z1, hf⟩ := nzI_of hf
  refine v_irem (pc := 30) dM_isPrime_30 z1 ?_
  refine v_if_eq (pc := 31) (tgt := 38) dM_isPrime_31 rfl hf (fun hf => ?_) (fun hf => ?_)
  · refine v_iconst (pc := 38) (0:Int32) dM_isPrime_38 rfl ?_
    refine v_wk (ls' := [some (.int x0), none, some (.int x2)]) ⟨rfl, rfl, trivial⟩ ?_
    exact tM_isPrime_39 hk13 n h (0:Int32) x0 x2 hf
  refine v_iconst (pc := 34) (1:Int32) dM_isPrime_34 rfl ?_
  refine v_goto (pc := 35) (tgt := 39) dM_isPrime_35 rfl ?_
  refine v_wk (ls' := [some (.int x0), none, some (.int x2)]) ⟨rfl, rfl, trivial⟩ ?_
  exact tM_isPrime_39 hk13 n h (1:Int32) x0 x2 hf
def fM_isPrime_10 (n : Nat) (h : MH) (s0 : Int32) (x0 : Int32) : Option (MH × Int32) := (fM_isPrime_13 n h x0 s0 (2:Int32))
set_option maxRecDepth 20000 in
set_option maxHeartbeats 4000000 in
theorem tM_isPrime_10 {g : Gh} {h' : MH} {r' : Int32} (n : Nat) (h : MH) (s0 : Int32) (x0 : Int32) (hf : fM_isPrime_10 n h s0 x0 = some (h', r')) : V g yM_isPrime cM_isPrime 3 (some .boolean) rmM_isPrime (ZQ g rmM_isPrime h' (some (.int r'))) 0 0 h 10 [some (.int x0), none, none] [.int s0] := by
  unfold fM_isPrime_10 at hf
  refine v_istore_n (i := 1) (pc := 10) (ls' := [some (.int x0), some (.int s0), none]) dM_isPrime_10 rfl (by decide) rfl ?_
  refine v_iconst (pc := 11) (2:Int32) dM_isPrime_11 rfl ?_
  refine v_istore_n (i := 2) (pc := 12) (ls' := [some (.int x0), some (.int s0), some (.int (2:Int32))]) dM_isPrime_12 rfl (by decide) rfl ?_
  refine v_wk (ls' := [some (.int x0), some (.int s0), some (.int (2:Int32))]) ⟨rfl, rfl, rfl, trivial⟩ ?_
  exact tM_isPrime_13 n h x0 s0 (2:Int32) hf
def fM_isPrime (n : Nat) (h : MH) (i_0 : Int32) : Option (MH × Int32) := (if i_0 ≤ (1:Int32) then (fM_isPrime_10 n h (0:Int32) i_0) else (fM_isPrime_10 n h (1:Int32) i_0))
set_option maxRecDepth 20000 in
set_option maxHeartbeats 4000000 in
theorem sM_isPrime {g : Gh} {h' : MH} {r' : Int32} {n : Nat} {h : MH} {i_0 : Int32} (hf : fM_isPrime n h i_0 = some (h', r')) : Sp g yM_isPrime cM_isPrime 3 (some .boolean) rmM_isPrime h [.int i_0] h' (some (.int r')) := by
  refine sp_of (by decide) (Nat.le_of_ble_eq_true rfl) ?_
  change V g yM_isPrime cM_isPrime 3 (some .boolean) rmM_isPrime (ZQ g rmM_isPrime h' (some (.int r'))) 0 0 h 0 [some (.int i_0), none, none] []
  unfold fM_isPrime at hf
  refine v_iload_n (i := 0) (pc := 0) dM_isPrime_0 rfl rfl ?_
  refine v_iconst (pc := 1) (1:Int32) dM_isPrime_1 rfl ?_
  refine v_icmp_le (pc := 2) (tgt := 9) dM_isPrime_2 rfl hf (fun hf => ?_) (fun hf => ?_)
  · refine v_iconst (pc := 9) (0:Int32) dM_isPrime_9 rfl ?_
    refine v_wk (ls' := [some (.int i_0), none, none]) ⟨rfl, trivial⟩ ?_
    exact tM_isPrime_10 n h (0:Int32) i_0 hf
  refine v_iconst (pc := 5) (1:Int32) dM_isPrime_5 rfl ?_
  refine v_goto (pc := 6) (tgt := 10) dM_isPrime_6 rfl ?_
  refine v_wk (ls' := [some (.int i_0), none, none]) ⟨rfl, trivial⟩ ?_
  exact tM_isPrime_10 n h (1:Int32) i_0 hf
abbrev rmM_follow : Room := { frames := 0, cells := 0, slots := 0, locals := 0 }
def fM_follow_144 (k84 : (MH × Nat × Int32 × Int32 × Int32 × Int32 × Int32) → Option (MH × Int32)) (n : Nat) (h : MH) (s0 : Int32) (s1 : Int32) (s2 : Nat) (x0 : Nat) (x1 : Int32) (x2 : Int32) (x3 : Int32) (x4 : Int32) (x5 : Int32) : Option (MH × Int32) := ((wrI h s2 s1 s0).bind fun h1 => (k84 (h1, x0, x1, x2, x3, x4, (x5 + (1:Int32)))))
set_option maxRecDepth 20000 in
set_option maxHeartbeats 4000000 in
theorem tM_follow_144 {g : Gh} {h' : MH} {r' : Int32} {k84 : (MH × Nat × Int32 × Int32 × Int32 × Int32 × Int32) → Option (MH × Int32)} (hk84 : ∀ (h : MH) (x0 : Nat) (x1 : Int32) (x2 : Int32) (x3 : Int32) (x4 : Int32) (x5 : Int32), k84 (h, x0, x1, x2, x3, x4, x5) = some (h', r') → V g yM_follow cM_follow 7 (some .boolean) rmM_follow (ZQ g rmM_follow h' (some (.int r'))) 0 0 h 84 [some (.ref x0), some (.int x1), some (.int x2), some (.int x3), some (.int x4), some (.int x5), none] []) (n : Nat) (h : MH) (s0 : Int32) (s1 : Int32) (s2 : Nat) (x0 : Nat) (x1 : Int32) (x2 : Int32) (x3 : Int32) (x4 : Int32) (x5 : Int32) (hf : fM_follow_144 k84 n h s0 s1 s2 x0 x1 x2 x3 x4 x5 = some (h', r')) : V g yM_follow cM_follow 7 (some .boolean) rmM_follow (ZQ g rmM_follow h' (some (.int r'))) 0 0 h 144 [some (.ref x0), some (.int x1), some (.int x2), some (.int x3), some (.int x4), some (.int x5), none] [.int s0, .int s1, .ref s2] := by
  unfold fM_follow_144 at hf
  refine v_iast (pc := 144) dM_follow_144 hf (fun h1 hf => ?_)
  refine v_iinc (pc := 145) (v := (x5 + (1:Int32))) (ls' := [some (.ref x0), some (.int x1), some (.int x2), some (.int x3), some (.int x4), some (.int (x5 + (1:Int32))), none]) dM_follow_145 rfl rfl (by decide) rfl ?_
  refine v_goto (pc := 148) (tgt := 84) dM_follow_148 rfl ?_
  refine v_wk (ls' := [some (.ref x0), some (.int x1), some (.int x2), some (.int x3), some (.int x4), some (.int (x5 + (1:Int32))), none]) ⟨rfl, rfl, rfl, rfl, rfl, rfl, trivial⟩ ?_
  exact hk84 h1 x0 x1 x2 x3 x4 (x5 + (1:Int32)) hf
def bM_follow_84 (n : Nat) (k84 : (MH × Nat × Int32 × Int32 × Int32 × Int32 × Int32) → Option (MH × Int32)) (h : MH) (x0 : Nat) (x1 : Int32) (x2 : Int32) (x3 : Int32) (x4 : Int32) (x5 : Int32) : Option (MH × Int32) := (if x2 ≤ x5 then (retZ h (1:Int32)) else ((gfR h x0 [12] 4).bind fun a1 => (if x3 ≤ x5 then ((gfR h x0 [12] 4).bind fun a2 => ((rdI h a2 ((((((6:Int32) * x1) + (6:Int32)) + x5) - x3) + x4)).bind fun i3 => (fM_follow_144 k84 n h i3 ((((6:Int32) * x1) + (6:Int32)) + x5) a1 x0 x1 x2 x3 x4 x5))) else ((gfR h x0 [12] 4).bind fun a4 => ((rdI h a4 (((6:Int32) * x1) + x5)).bind fun i5 => (fM_follow_144 k84 n h i5 ((((6:Int32) * x1) + (6:Int32)) + x5) a1 x0 x1 x2 x3 x4 x5))))))
def fM_follow_84 (n : Nat) (h : MH) (x0 : Nat) (x1 : Int32) (x2 : Int32) (x3 : Int32) (x4 : Int32) (x5 : Int32) : Option (MH × Int32) := lp (fun n k s => bM_follow_84 n k s.1 s.2.1 s.2.2.1 s.2.2.2.1 s.2.2.2.2.1 s.2.2.2.2.2.1 s.2.2.2.2.2.2) n (h, x0, x1, x2, x3, x4, x5)
set_option maxRecDepth 20000 in
set_option maxHeartbeats 4000000 in
theorem tM_follow_84 {g : Gh} {h' : MH} {r' : Int32} (n : Nat) (h : MH) (x0 : Nat) (x1 : Int32) (x2 : Int32) (x3 : Int32) (x4 : Int32) (x5 : Int32) (hf : fM_follow_84 n h x0 x1 x2 x3 x4 x5 = some (h', r')) : V g yM_follow cM_follow 7 (some .boolean) rmM_follow (ZQ g rmM_follow h' (some (.int r'))) 0 0 h 84 [some (.ref x0), some (.int x1), some (.int x2), some (.int x3), some (.int x4), some (.int x5), none] [] := by
  unfold fM_follow_84 at hf
  refine lp_ind (P := fun s => V g yM_follow cM_follow 7 (some .boolean) rmM_follow (ZQ g rmM_follow h' (some (.int r'))) 0 0 s.1 84 [some (.ref s.2.1), some (.int s.2.2.1), some (.int s.2.2.2.1), some (.int s.2.2.2.2.1), some (.int s.2.2.2.2.2.1), some (.int s.2.2.2.2.2.2), none] []) (fun n k84 hk84 s hf => ?_) n (h, x0, x1, x2, x3, x4, x5) hf
  obtain ⟨h, x0, x1, x2, x3, x4, x5⟩ := s
  replace hk84 : ∀ (h : MH) (x0 : Nat) (x1 : Int32) (x2 : Int32) (x3 : Int32) (x4 : Int32) (x5 : Int32), k84 (h, x0, x1, x2, x3, x4, x5) = some (h', r') → V g yM_follow cM_follow 7 (some .boolean) rmM_follow (ZQ g rmM_follow h' (some (.int r'))) 0 0 h 84 [some (.ref x0), some (.int x1), some (.int x2), some (.int x3), some (.int x4), some (.int x5), none] [] := fun h x0 x1 x2 x3 x4 x5 => hk84 (h, x0, x1, x2, x3, x4, x5)
  replace hf : bM_follow_84 n k84 h x0 x1 x2 x3 x4 x5 = some (h', r') := hf
  change V g yM_follow cM_follow 7 (some .boolean) rmM_follow (ZQ g rmM_follow h' (some (.int r'))) 0 0 h 84 [some (.ref x0), some (.int x1), some (.int x2), some (.int x3), some (.int x4), some (.int x5), none] []
  unfold bM_follow_84 at hf
  refine v_iload (pc := 84) dM_follow_84 rfl ?_
  refine v_iload_n (i := 2) (pc := 86) dM_follow_86 rfl rfl ?_
  refine v_icmp_ge (pc := 87) (tgt := 151) dM_follow_87 rfl hf (fun hf => ?_) (fun hf => ?_)
  · refine v_iconst (pc := 151) (1:Int32) dM_follow_151 rfl ?_
    exact v_zret (pc := 152) dM_follow_152 (by decide) (by decide) hf
  refine v_bipush (pc := 90) (6:Int32) dM_follow_90 rfl ?_
  refine v_iload_n (i := 1) (pc := 92) dM_follow_92 rfl rfl ?_
  refine v_imul (pc := 93) dM_follow_93 ?_
  refine v_bipush (pc := 94) (6:Int32) dM_follow_94 rfl ?_
  refine v_iadd (pc := 96) dM_follow_96 ?_
  refine v_istore (pc := 97) (ls' := [some (.ref x0), some (.int x1), some (.int x2), some (.int x3), some (.int x4), some (.int x5), some (.int (((6:Int32) * x1) + (6:Int32)))]) dM_follow_97 (by decide) rfl ?_
  refine v_aload_n (i := 0) (pc := 99) dM_follow_99 rfl rfl ?_
  refine v_getR (pc := 100) fgM_21 dM_follow_100 hf (fun a1 hf => ?_)
  refine v_iload (pc := 103) dM_follow_103 rfl ?_
  refine v_iload (pc := 105) dM_follow_105 rfl ?_
  refine v_iadd (pc := 107) dM_follow_107 ?_
  refine v_iload (pc := 108) dM_follow_108 rfl ?_
  refine v_iload_n (i := 3) (pc := 110) dM_follow_110 rfl rfl ?_
  refine v_icmp_ge (pc := 111) (tgt := 129) dM_follow_111 rfl hf (fun hf => ?_) (fun hf => ?_)
  rotate_left
  · refine v_aload_n (i := 0) (pc := 114) dM_follow_114 rfl rfl ?_
    refine v_getR (pc := 115) fgM_21 dM_follow_115 hf (fun a4 hf => ?_)
    refine v_bipush (pc := 118) (6:Int32) dM_follow_118 rfl ?_
    refine v_iload_n (i := 1) (pc := 120) dM_follow_120 rfl rfl ?_
    refine v_imul (pc := 121) dM_follow_121 ?_
    refine v_iload (pc := 122) dM_follow_122 rfl ?_
    refine v_iadd (pc := 124) dM_follow_124 ?_
    refine v_iald (pc := 125) dM_follow_125 hf (fun i5 hf => ?_)
    refine v_goto (pc := 126) (tgt := 144) dM_follow_126 rfl ?_
    refine v_wk (ls' := [some (.ref x0), some (.int x1), some (.int x2), some (.int x3), some (.int x4), some (.int x5), none]) ⟨rfl, rfl, rfl, rfl, rfl, rfl, trivial⟩ ?_
    exact tM_follow_144 hk84 n h i5 ((((6:Int32) * x1) + (6:Int32)) + x5) a1 x0 x1 x2 x3 x4 x5 hf
  refine v_aload_n (i := 0) (pc := 129) dM_follow_129 rfl rfl ?_
  refine v_getR (pc := 130) fgM_21 dM_follow_130 hf (fun a2 hf => ?_)
  refine v_iload (pc := 133) dM_follow_133 rfl ?_
  refine v_iload (pc := 135) dM_follow_135 rfl ?_
  refine v_iadd (pc := 137) dM_follow_137 ?_
  refine v_iload_n (i := 3) (pc := 138) dM_follow_138 rfl rfl ?_
  refine v_isub (pc := 139) dM_follow_139 ?_
  refine v_iload (pc := 140) dM_follow_140 rfl ?_
  refine v_iadd (pc := 142) dM_follow_142 ?_
  refine v_iald (pc := 143) dM_follow_143 hf (fun i3 hf => ?_)
  refine v_wk (ls' := [some (.ref x0), some (.int x1), some (.int x2), some (.int x3), some (.int x4), some (.int x5), none]) ⟨rfl, rfl, rfl, rfl, rfl, rfl, trivial⟩ ?_
  exact tM_follow_144 hk84 n h i3 ((((6:Int32) * x1) + (6:Int32)) + x5) a1 x0 x1 x2 x3 x4 x5 hf
def bM_follow_47 (n : Nat) (k47 : (MH × Nat × Int32 × Int32 × Int32 × Int32) → Option (MH × Int32)) (h : MH) (x0 : Nat) (x1 : Int32) (x2 : Int32) (x3 : Int32) (x4 : Int32) : Option (MH × Int32) := ((gfR h x0 [12] 4).bind fun a1 => ((rdI h a1 (((6:Int32) * x1) + x4)).bind fun i2 => ((gfR h x0 [12] 4).bind fun a3 => ((rdI h a3 (((6:Int32) * x1) + x3)).bind fun i4 => (if i2 = (i4 - (1:Int32)) then (fM_follow_84 n h x0 x1 x2 x3 x4 (0:Int32)) else (k47 (h, x0, x1, x2, x3, (x4 + (-1:Int32)))))))))
def fM_follow_47 (n : Nat) (h : MH) (x0 : Nat) (x1 : Int32) (x2 : Int32) (x3 : Int32) (x4 : Int32) : Option (MH × Int32) := lp (fun n k s => bM_follow_47 n k s.1 s.2.1 s.2.2.1 s.2.2.2.1 s.2.2.2.2.1 s.2.2.2.2.2) n (h, x0, x1, x2, x3, x4)
set_option maxRecDepth 20000 in
set_option maxHeartbeats 4000000 in
theorem tM_follow_47 {g : Gh} {h' : MH} {r' : Int32} (n : Nat) (h : MH) (x0 : Nat) (x1 : Int32) (x2 : Int32) (x3 : Int32) (x4 : Int32) (hf : fM_follow_47 n h x0 x1 x2 x3 x4 = some (h', r')) : V g yM_follow cM_follow 7 (some .boolean) rmM_follow (ZQ g rmM_follow h' (some (.int r'))) 0 0 h 47 [some (.ref x0), some (.int x1), some (.int x2), some (.int x3), some (.int x4), none, none] [] := by
  unfold fM_follow_47 at hf
  refine lp_ind (P := fun s => V g yM_follow cM_follow 7 (some .boolean) rmM_follow (ZQ g rmM_follow h' (some (.int r'))) 0 0 s.1 47 [some (.ref s.2.1), some (.int s.2.2.1), some (.int s.2.2.2.1), some (.int s.2.2.2.2.1), some (.int s.2.2.2.2.2), none, none] []) (fun n k47 hk47 s hf => ?_) n (h, x0, x1, x2, x3, x4) hf
  obtain ⟨h, x0, x1, x2, x3, x4⟩ := s
  replace hk47 : ∀ (h : MH) (x0 : Nat) (x1 : Int32) (x2 : Int32) (x3 : Int32) (x4 : Int32), k47 (h, x0, x1, x2, x3, x4) = some (h', r') → V g yM_follow cM_follow 7 (some .boolean) rmM_follow (ZQ g rmM_follow h' (some (.int r'))) 0 0 h 47 [some (.ref x0), some (.int x1), some (.int x2), some (.int x3), some (.int x4), none, none] [] := fun h x0 x1 x2 x3 x4 => hk47 (h, x0, x1, x2, x3, x4)
  replace hf : bM_follow_47 n k47 h x0 x1 x2 x3 x4 = some (h', r') := hf
  change V g yM_follow cM_follow 7 (some .boolean) rmM_follow (ZQ g rmM_follow h' (some (.int r'))) 0 0 h 47 [some (.ref x0), some (.int x1), some (.int x2), some (.int x3), some (.int x4), none, none] []
  unfold bM_follow_47 at hf
  refine v_aload_n (i := 0) (pc := 47) dM_follow_47 rfl rfl ?_
  refine v_getR (pc := 48) fgM_21 dM_follow_48 hf (fun a1 hf => ?_)
  refine v_bipush (pc := 51) (6:Int32) dM_follow_51 rfl ?_
  refine v_iload_n (i := 1) (pc := 53) dM_follow_53 rfl rfl ?_
  refine v_imul (pc := 54) dM_follow_54 ?_
  refine v_iload (pc := 55) dM_follow_55 rfl ?_
  refine v_iadd (pc := 57) dM_follow_57 ?_
  refine v_iald (pc := 58) dM_follow_58 hf (fun i2 hf => ?_)
  refine v_aload_n (i := 0) (pc := 59) dM_follow_59 rfl rfl ?_
  refine v_getR (pc := 60) fgM_21 dM_follow_60 hf (fun a3 hf => ?_)
  refine v_bipush (pc := 63) (6:Int32) dM_follow_63 rfl ?_
  refine v_iload_n (i := 1) (pc := 65) dM_follow_65 rfl rfl ?_
  refine v_imul (pc := 66) dM_follow_66 ?_
  refine v_iload_n (i := 3) (pc := 67) dM_follow_67 rfl rfl ?_
  refine v_iadd (pc := 68) dM_follow_68 ?_
  refine v_iald (pc := 69) dM_follow_69 hf (fun i4 hf => ?_)
  refine v_iconst (pc := 70) (1:Int32) dM_follow_70 rfl ?_
  refine v_isub (pc := 71) dM_follow_71 ?_
  refine v_icmp_eq (pc := 72) (tgt := 81) dM_follow_72 rfl hf (fun hf => ?_) (fun hf => ?_)
  · refine v_iconst (pc := 81) (0:Int32) dM_follow_81 rfl ?_
    refine v_istore (pc := 82) (ls' := [some (.ref x0), some (.int x1), some (.int x2), some (.int x3), some (.int x4), some (.int (0:Int32)), none]) dM_follow_82 (by decide) rfl ?_
    refine v_wk (ls' := [some (.ref x0), some (.int x1), some (.int x2), some (.int x3), some (.int x4), some (.int (0:Int32)), none]) ⟨rfl, rfl, rfl, rfl, rfl, rfl, trivial⟩ ?_
    exact tM_follow_84 n h x0 x1 x2 x3 x4 (0:Int32) hf
  refine v_iinc (pc := 75) (v := (x4 + (-1:Int32))) (ls' := [some (.ref x0), some (.int x1), some (.int x2), some (.int x3), some (.int (x4 + (-1:Int32))), none, none]) dM_follow_75 rfl rfl (by decide) rfl ?_
  refine v_goto (pc := 78) (tgt := 47) dM_follow_78 rfl ?_
  refine v_wk (ls' := [some (.ref x0), some (.int x1), some (.int x2), some (.int x3), some (.int (x4 + (-1:Int32))), none, none]) ⟨rfl, rfl, rfl, rfl, rfl, trivial⟩ ?_
  exact hk47 h x0 x1 x2 x3 (x4 + (-1:Int32)) hf
def fM_follow_36 (n : Nat) (h : MH) (x0 : Nat) (x1 : Int32) (x2 : Int32) (x3 : Int32) : Option (MH × Int32) := (if (0:Int32) < x3 then (fM_follow_47 n h x0 x1 x2 x3 (x3 - (1:Int32))) else (retZ h (0:Int32)))
set_option maxRecDepth 20000 in
set_option maxHeartbeats 4000000 in
theorem tM_follow_36 {g : Gh} {h' : MH} {r' : Int32} (n : Nat) (h : MH) (x0 : Nat) (x1 : Int32) (x2 : Int32) (x3 : Int32) (hf : fM_follow_36 n h x0 x1 x2 x3 = some (h', r')) : V g yM_follow cM_follow 7 (some .boolean) rmM_follow (ZQ g rmM_follow h' (some (.int r'))) 0 0 h 36 [some (.ref x0), some (.int x1), some (.int x2), some (.int x3), none, none, none] [] := by
  unfold fM_follow_36 at hf
  refine v_iload_n (i := 3) (pc := 36) dM_follow_36 rfl rfl ?_
  refine v_if_gt (pc := 37) (tgt := 42) dM_follow_37 rfl hf (fun hf => ?_) (fun hf => ?_)
  rotate_left
  · refine v_iconst (pc := 40) (0:Int32) dM_follow_40 rfl ?_
    exact v_zret (pc := 41) dM_follow_41 (by decide) (by decide) hf
  refine v_iload_n (i := 3) (pc := 42) dM_follow_42 rfl rfl ?_
  refine v_iconst (pc := 43) (1:Int32) dM_follow_43 rfl ?_
  refine v_isub (pc := 44) dM_follow_44 ?_
  refine v_istore (pc := 45) (ls' := [some (.ref x0), some (.int x1), some (.int x2), some (.int x3), some (.int (x3 - (1:Int32))), none, none]) dM_follow_45 (by decide) rfl ?_
  refine v_wk (ls' := [some (.ref x0), some (.int x1), some (.int x2), some (.int x3), some (.int (x3 - (1:Int32))), none, none]) ⟨rfl, rfl, rfl, rfl, rfl, trivial⟩ ?_
  exact tM_follow_47 n h x0 x1 x2 x3 (x3 - (1:Int32)) hf
def bM_follow_11 (n : Nat) (k11 : (MH × Nat × Int32 × Int32 × Int32) → Option (MH × Int32)) (h : MH) (x0 : Nat) (x1 : Int32) (x2 : Int32) (x3 : Int32) : Option (MH × Int32) := (if x3 ≤ (0:Int32) then (fM_follow_36 n h x0 x1 x2 x3) else ((gfR h x0 [12] 4).bind fun a1 => ((rdI h a1 (((6:Int32) * x1) + x3)).bind fun i2 => (if (2:Int32) ≤ i2 then (fM_follow_36 n h x0 x1 x2 x3) else (k11 (h, x0, x1, x2, (x3 + (-1:Int32))))))))
def fM_follow_11 (n : Nat) (h : MH) (x0 : Nat) (x1 : Int32) (x2 : Int32) (x3 : Int32) : Option (MH × Int32) := lp (fun n k s => bM_follow_11 n k s.1 s.2.1 s.2.2.1 s.2.2.2.1 s.2.2.2.2) n (h, x0, x1, x2, x3)
set_option maxRecDepth 20000 in
set_option maxHeartbeats 4000000 in
theorem tM_follow_11 {g : Gh} {h' : MH} {r' : Int32} (n : Nat) (h : MH) (x0 : Nat) (x1 : Int32) (x2 : Int32) (x3 : Int32) (hf : fM_follow_11 n h x0 x1 x2 x3 = some (h', r')) : V g yM_follow cM_follow 7 (some .boolean) rmM_follow (ZQ g rmM_follow h' (some (.int r'))) 0 0 h 11 [some (.ref x0), some (.int x1), some (.int x2), some (.int x3), none, none, none] [] := by
  unfold fM_follow_11 at hf
  refine lp_ind (P := fun s => V g yM_follow cM_follow 7 (some .boolean) rmM_follow (ZQ g rmM_follow h' (some (.int r'))) 0 0 s.1 11 [some (.ref s.2.1), some (.int s.2.2.1), some (.int s.2.2.2.1), some (.int s.2.2.2.2), none, none, none] []) (fun n k11 hk11 s hf => ?_) n (h, x0, x1, x2, x3) hf
  obtain ⟨h, x0, x1, x2, x3⟩ := s
  replace hk11 : ∀ (h : MH) (x0 : Nat) (x1 : Int32) (x2 : Int32) (x3 : Int32), k11 (h, x0, x1, x2, x3) = some (h', r') → V g yM_follow cM_follow 7 (some .boolean) rmM_follow (ZQ g rmM_follow h' (some (.int r'))) 0 0 h 11 [some (.ref x0), some (.int x1), some (.int x2), some (.int x3), none, none, none] [] := fun h x0 x1 x2 x3 => hk11 (h, x0, x1, x2, x3)
  replace hf : bM_follow_11 n k11 h x0 x1 x2 x3 = some (h', r') := hf
  change V g yM_follow cM_follow 7 (some .boolean) rmM_follow (ZQ g rmM_follow h' (some (.int r'))) 0 0 h 11 [some (.ref x0), some (.int x1), some (.int x2), some (.int x3), none, none, none] []
  unfold bM_follow_11 at hf
  refine v_iload_n (i := 3) (pc := 11) dM_follow_11 rfl rfl ?_
  refine v_if_le (pc := 12) (tgt := 36) dM_follow_12 rfl hf (fun hf => ?_) (fun hf => ?_)
  · refine v_wk (ls' := [some (.ref x0), some (.int x1), some (.int x2), some (.int x3), none, none, none]) ⟨rfl, rfl, rfl, rfl, trivial⟩ ?_
    exact tM_follow_36 n h x0 x1 x2 x3 hf
  refine v_aload_n (i := 0) (pc := 15) dM_follow_15 rfl rfl ?_
  refine v_getR (pc := 16) fgM_21 dM_follow_16 hf (fun a1 hf => ?_)
  refine v_bipush (pc := 19) (6:Int32) dM_follow_19 rfl ?_
  refine v_iload_n (i := 1) (pc := 21) dM_follow_21 rfl rfl ?_
  refine v_imul (pc := 22) dM_follow_22 ?_
  refine v_iload_n (i := 3) (pc := 23) dM_follow_23 rfl rfl ?_
  refine v_iadd (pc := 24) dM_follow_24 ?_
  refine v_iald (pc := 25) dM_follow_25 hf (fun i2 hf => ?_)
  refine v_iconst (pc := 26) (2:Int32) dM_follow_26 rfl ?_
  refine v_icmp_ge (pc := 27) (tgt := 36) dM_follow_27 rfl hf (fun hf => ?_) (fun hf => ?_)
  · refine v_wk (ls' := [some (.ref x0), some (.int x1), some (.int x2), some (.int x3), none, none, none]) ⟨rfl, rfl, rfl, rfl, trivial⟩ ?_
    exact tM_follow_36 n h x0 x1 x2 x3 hf
  refine v_iinc (pc := 30) (v := (x3 + (-1:Int32))) (ls' := [some (.ref x0), some (.int x1), some (.int x2), some (.int (x3 + (-1:Int32))), none, none, none]) dM_follow_30 rfl rfl (by decide) rfl ?_
  refine v_goto (pc := 33) (tgt := 11) dM_follow_33 rfl ?_
  refine v_wk (ls' := [some (.ref x0), some (.int x1), some (.int x2), some (.int (x3 + (-1:Int32))), none, none, none]) ⟨rfl, rfl, rfl, rfl, trivial⟩ ?_
  exact hk11 h x0 x1 x2 (x3 + (-1:Int32)) hf
def fM_follow (n : Nat) (h : MH) (a_0 : Nat) (i_1 : Int32) : Option (MH × Int32) := ((gfR h a_0 [12] 3).bind fun a1 => ((rdI h a1 i_1).bind fun i2 => (fM_follow_11 n h a_0 i_1 i2 (i2 - (1:Int32)))))
set_option maxRecDepth 20000 in
set_option maxHeartbeats 4000000 in
theorem sM_follow {g : Gh} {h' : MH} {r' : Int32} {n : Nat} {h : MH} {a_0 : Nat} {i_1 : Int32} (hf : fM_follow n h a_0 i_1 = some (h', r')) : Sp g yM_follow cM_follow 7 (some .boolean) rmM_follow h [.ref a_0, .int i_1] h' (some (.int r')) := by
  refine sp_of (by decide) (Nat.le_of_ble_eq_true rfl) ?_
  change V g yM_follow cM_follow 7 (some .boolean) rmM_follow (ZQ g rmM_follow h' (some (.int r'))) 0 0 h 0 [some (.ref a_0), some (.int i_1), none, none, none, none, none] []
  unfold fM_follow at hf
  refine v_aload_n (i := 0) (pc := 0) dM_follow_0 rfl rfl ?_
  refine v_getR (pc := 1) fgM_17 dM_follow_1 hf (fun a1 hf => ?_)
  refine v_iload_n (i := 1) (pc := 4) dM_follow_4 rfl rfl ?_
  refine v_iald (pc := 5) dM_follow_5 hf (fun i2 hf => ?_)
  refine v_istore_n (i := 2) (pc := 6) (ls' := [some (.ref a_0), some (.int i_1), some (.int i2), none, none, none, none]) dM_follow_6 rfl (by decide) rfl ?_
  refine v_iload_n (i := 2) (pc := 7) dM_follow_7 rfl rfl ?_
  refine v_iconst (pc := 8) (1:Int32) dM_follow_8 rfl ?_
  refine v_isub (pc := 9) dM_follow_9 ?_
  refine v_istore_n (i := 3) (pc := 10) (ls' := [some (.ref a_0), some (.int i_1), some (.int i2), some (.int (i2 - (1:Int32))), none, none, none]) dM_follow_10 rfl (by decide) rfl ?_
  refine v_wk (ls' := [some (.ref a_0), some (.int i_1), some (.int i2), some (.int (i2 - (1:Int32))), none, none, none]) ⟨rfl, rfl, rfl, rfl, trivial⟩ ?_
  exact tM_follow_11 n h a_0 i_1 i2 (i2 - (1:Int32)) hf
abbrev rmM_init : Room := { frames := 1, cells := 16, slots := 2011, locals := 26 }
def bM_init_242 (k204 : (MH × Nat × Int32 × Int32) → Option MH) (n : Nat) (k242 : (MH × Nat × Int32 × Int32 × Int32) → Option MH) (h : MH) (x0 : Nat) (x2 : Int32) (x3 : Int32) (x4 : Int32) : Option MH := (if x4 = (0:Int32) then (k204 (h, x0, x2, (x3 + (1:Int32)))) else ((gfR h x0 [12] 3).bind fun a1 => ((wrI h a1 x2 x3).bind fun h2 => ((chk h2 x0 12).bind fun _ => (bnd2 (fM_follow n h2 x0 x2) fun h3 i4 => (k242 (h3, x0, (x2 + (1:Int32)), x3, i4)))))))
def fM_init_242 (k204 : (MH × Nat × Int32 × Int32) → Option MH) (n : Nat) (h : MH) (x0 : Nat) (x2 : Int32) (x3 : Int32) (x4 : Int32) : Option MH := lp (fun n k s => bM_init_242 k204 n k s.1 s.2.1 s.2.2.1 s.2.2.2.1 s.2.2.2.2) n (h, x0, x2, x3, x4)
set_option maxRecDepth 20000 in
set_option maxHeartbeats 4000000 in
theorem tM_init_242 {g : Gh} {h' : MH} {k204 : (MH × Nat × Int32 × Int32) → Option MH} (hk204 : ∀ (h : MH) (x0 : Nat) (x2 : Int32) (x3 : Int32), k204 (h, x0, x2, x3) = some h' → V g yM_init cM_init 5 none rmM_init (ZQ g rmM_init h' none) 16 2011 h 204 [some (.ref x0), none, some (.int x2), some (.int x3), none] []) (n : Nat) (h : MH) (x0 : Nat) (x2 : Int32) (x3 : Int32) (x4 : Int32) (hf : fM_init_242 k204 n h x0 x2 x3 x4 = some h') : V g yM_init cM_init 5 none rmM_init (ZQ g rmM_init h' none) 16 2011 h 242 [some (.ref x0), none, some (.int x2), some (.int x3), some (.int x4)] [] := by
  unfold fM_init_242 at hf
  refine lp_ind (P := fun s => V g yM_init cM_init 5 none rmM_init (ZQ g rmM_init h' none) 16 2011 s.1 242 [some (.ref s.2.1), none, some (.int s.2.2.1), some (.int s.2.2.2.1), some (.int s.2.2.2.2)] []) (fun n k242 hk242 s hf => ?_) n (h, x0, x2, x3, x4) hf
  obtain ⟨h, x0, x2, x3, x4⟩ := s
  replace hk242 : ∀ (h : MH) (x0 : Nat) (x2 : Int32) (x3 : Int32) (x4 : Int32), k242 (h, x0, x2, x3, x4) = some h' → V g yM_init cM_init 5 none rmM_init (ZQ g rmM_init h' none) 16 2011 h 242 [some (.ref x0), none, some (.int x2), some (.int x3), some (.int x4)] [] := fun h x0 x2 x3 x4 => hk242 (h, x0, x2, x3, x4)
  replace hf : bM_init_242 k204 n k242 h x0 x2 x3 x4 = some h' := hf
  change V g yM_init cM_init 5 none rmM_init (ZQ g rmM_init h' none) 16 2011 h 242 [some (.ref x0), none, some (.int x2), some (.int x3), some (.int x4)] []
  unfold bM_init_242 at hf
  refine v_iload (pc := 242) dM_init_242 rfl ?_
  refine v_if_eq (pc := 244) (tgt := 267) dM_init_244 rfl hf (fun hf => ?_) (fun hf => ?_)
  · refine v_iinc (pc := 267) (v := (x3 + (1:Int32))) (ls' := [some (.ref x0), none, some (.int x2), some (.int (x3 + (1:Int32))), some (.int x4)]) dM_init_267 rfl rfl (by decide) rfl ?_
    refine v_goto (pc := 270) (tgt := 204) dM_init_270 rfl ?_
    refine v_wk (ls' := [some (.ref x0), none, some (.int x2), some (.int (x3 + (1:Int32))), none]) ⟨rfl, rfl, rfl, trivial⟩ ?_
    exact hk204 h x0 x2 (x3 + (1:Int32)) hf
  refine v_aload_n (i := 0) (pc := 247) dM_init_247 rfl rfl ?_
  refine v_getR (pc := 248) fgM_17 dM_init_248 hf (fun a1 hf => ?_)
  refine v_iload_n (i := 2) (pc := 251) dM_init_251 rfl rfl ?_
  refine v_iload_n (i := 3) (pc := 252) dM_init_252 rfl rfl ?_
  refine v_iast (pc := 253) dM_init_253 hf (fun h2 hf => ?_)
  refine v_aload_n (i := 0) (pc := 254) dM_init_254 rfl rfl ?_
  refine v_iload_n (i := 2) (pc := 255) dM_init_255 rfl rfl ?_
  obtain ⟨u6, cu6, hf⟩ := bnd hf
  obtain ⟨h3, i4, e5, hf⟩ := bndp hf
  refine v_M1 (pc := 256) (As := [.int x2]) (rest := []) lmM_83 cu6 (sM_follow e5) ⟨Nat.le_of_ble_eq_true rfl, Nat.le_of_ble_eq_true rfl, Nat.le_of_ble_eq_true rfl, Nat.le_of_ble_eq_true rfl⟩ dM_init_256 rfl rfl (Nat.le_of_ble_eq_true rfl) ?_
  refine v_istore (pc := 259) (ls' := [some (.ref x0), none, some (.int x2), some (.int x3), some (.int i4)]) dM_init_259 (by decide) rfl ?_
  refine v_iinc (pc := 261) (v := (x2 + (1:Int32))) (ls' := [some (.ref x0), none, some (.int (x2 + (1:Int32))), some (.int x3), some (.int i4)]) dM_init_261 rfl rfl (by decide) rfl ?_
  refine v_goto (pc := 264) (tgt := 242) dM_init_264 rfl ?_
  refine v_wk (ls' := [some (.ref x0), none, some (.int (x2 + (1:Int32))), some (.int x3), some (.int i4)]) ⟨rfl, rfl, rfl, rfl, trivial⟩ ?_
  exact hk242 h3 x0 (x2 + (1:Int32)) x3 i4 hf
def bM_init_213 (k204 : (MH × Nat × Int32 × Int32) → Option MH) (n : Nat) (k213 : (MH × Nat × Int32 × Int32 × Int32) → Option MH) (h : MH) (x0 : Nat) (x2 : Int32) (x3 : Int32) (x4 : Int32) : Option MH := (if x3 ≤ x4 then (fM_init_242 k204 n h x0 x2 x3 (1:Int32)) else ((gfR h x0 [12] 4).bind fun a1 => ((wrI h a1 (((6:Int32) * x2) + x4) x4).bind fun h2 => (k213 (h2, x0, x2, x3, (x4 + (1:Int32)))))))
def fM_init_213 (k204 : (MH × Nat × Int32 × Int32) → Option MH) (n : Nat) (h : MH) (x0 : Nat) (x2 : Int32) (x3 : Int32) (x4 : Int32) : Option MH := lp (fun n k s => bM_init_213 k204 n k s.1 s.2.1 s.2.2.1 s.2.2.2.1 s.2.2.2.2) n (h, x0, x2, x3, x4)
set_option maxRecDepth 20000 in
set_option maxHeartbeats 4000000 in
theorem tM_init_213 {g : Gh} {h' : MH} {k204 : (MH × Nat × Int32 × Int32) → Option MH} (hk204 : ∀ (h : MH) (x0 : Nat) (x2 : Int32) (x3 : Int32), k204 (h, x0, x2, x3) = some h' → V g yM_init cM_init 5 none rmM_init (ZQ g rmM_init h' none) 16 2011 h 204 [some (.ref x0), none, some (.int x2), some (.int x3), none] []) (n : Nat) (h : MH) (x0 : Nat) (x2 : Int32) (x3 : Int32) (x4 : Int32) (hf : fM_init_213 k204 n h x0 x2 x3 x4 = some h') : V g yM_init cM_init 5 none rmM_init (ZQ g rmM_init h' none) 16 2011 h 213 [some (.ref x0), none, some (.int x2), some (.int x3), some (.int x4)] [] := by
  unfold fM_init_213 at hf
  refine lp_ind (P := fun s => V g yM_init cM_init 5 none rmM_init (ZQ g rmM_init h' none) 16 2011 s.1 213 [some (.ref s.2.1), none, some (.int s.2.2.1), some (.int s.2.2.2.1), some (.int s.2.2.2.2)] []) (fun n k213 hk213 s hf => ?_) n (h, x0, x2, x3, x4) hf
  obtain ⟨h, x0, x2, x3, x4⟩ := s
  replace hk213 : ∀ (h : MH) (x0 : Nat) (x2 : Int32) (x3 : Int32) (x4 : Int32), k213 (h, x0, x2, x3, x4) = some h' → V g yM_init cM_init 5 none rmM_init (ZQ g rmM_init h' none) 16 2011 h 213 [some (.ref x0), none, some (.int x2), some (.int x3), some (.int x4)] [] := fun h x0 x2 x3 x4 => hk213 (h, x0, x2, x3, x4)
  replace hf : bM_init_213 k204 n k213 h x0 x2 x3 x4 = some h' := hf
  change V g yM_init cM_init 5 none rmM_init (ZQ g rmM_init h' none) 16 2011 h 213 [some (.ref x0), none, some (.int x2), some (.int x3), some (.int x4)] []
  unfold bM_init_213 at hf
  refine v_iload (pc := 213) dM_init_213 rfl ?_
  refine v_iload_n (i := 3) (pc := 215) dM_init_215 rfl rfl ?_
  refine v_icmp_ge (pc := 216) (tgt := 239) dM_init_216 rfl hf (fun hf => ?_) (fun hf => ?_)
  · refine v_iconst (pc := 239) (1:Int32) dM_init_239 rfl ?_
    refine v_istore (pc := 240) (ls' := [some (.ref x0), none, some (.int x2), some (.int x3), some (.int (1:Int32))]) dM_init_240 (by decide) rfl ?_
    refine v_wk (ls' := [some (.ref x0), none, some (.int x2), some (.int x3), some (.int (1:Int32))]) ⟨rfl, rfl, rfl, rfl, trivial⟩ ?_
    exact tM_init_242 hk204 n h x0 x2 x3 (1:Int32) hf
  refine v_aload_n (i := 0) (pc := 219) dM_init_219 rfl rfl ?_
  refine v_getR (pc := 220) fgM_21 dM_init_220 hf (fun a1 hf => ?_)
  refine v_bipush (pc := 223) (6:Int32) dM_init_223 rfl ?_
  refine v_iload_n (i := 2) (pc := 225) dM_init_225 rfl rfl ?_
  refine v_imul (pc := 226) dM_init_226 ?_
  refine v_iload (pc := 227) dM_init_227 rfl ?_
  refine v_iadd (pc := 229) dM_init_229 ?_
  refine v_iload (pc := 230) dM_init_230 rfl ?_
  refine v_iast (pc := 232) dM_init_232 hf (fun h2 hf => ?_)
  refine v_iinc (pc := 233) (v := (x4 + (1:Int32))) (ls' := [some (.ref x0), none, some (.int x2), some (.int x3), some (.int (x4 + (1:Int32)))]) dM_init_233 rfl rfl (by decide) rfl ?_
  refine v_goto (pc := 236) (tgt := 213) dM_init_236 rfl ?_
  refine v_wk (ls' := [some (.ref x0), none, some (.int x2), some (.int x3), some (.int (x4 + (1:Int32)))]) ⟨rfl, rfl, rfl, rfl, trivial⟩ ?_
  exact hk213 h2 x0 x2 x3 (x4 + (1:Int32)) hf
def bM_init_204 (n : Nat) (k204 : (MH × Nat × Int32 × Int32) → Option MH) (h : MH) (x0 : Nat) (x2 : Int32) (x3 : Int32) : Option MH := (if (6:Int32) < x3 then (some h) else (fM_init_213 k204 n h x0 x2 x3 (0:Int32)))
def fM_init_204 (n : Nat) (h : MH) (x0 : Nat) (x2 : Int32) (x3 : Int32) : Option MH := lp (fun n k s => bM_init_204 n k s.1 s.2.1 s.2.2.1 s.2.2.2) n (h, x0, x2, x3)
set_option maxRecDepth 20000 in
set_option maxHeartbeats 4000000 in
theorem tM_init_204 {g : Gh} {h' : MH} (n : Nat) (h : MH) (x0 : Nat) (x2 : Int32) (x3 : Int32) (hf : fM_init_204 n h x0 x2 x3 = some h') : V g yM_init cM_init 5 none rmM_init (ZQ g rmM_init h' none) 16 2011 h 204 [some (.ref x0), none, some (.int x2), some (.int x3), none] [] := by
  unfold fM_init_204 at hf
  refine lp_ind (P := fun s => V g yM_init cM_init 5 none rmM_init (ZQ g rmM_init h' none) 16 2011 s.1 204 [some (.ref s.2.1), none, some (.int s.2.2.1), some (.int s.2.2.2), none] []) (fun n k204 hk204 s hf => ?_) n (h, x0, x2, x3) hf
  obtain ⟨h, x0, x2, x3⟩ := s
  replace hk204 : ∀ (h : MH) (x0 : Nat) (x2 : Int32) (x3 : Int32), k204 (h, x0, x2, x3) = some h' → V g yM_init cM_init 5 none rmM_init (ZQ g rmM_init h' none) 16 2011 h 204 [some (.ref x0), none, some (.int x2), some (.int x3), none] [] := fun h x0 x2 x3 => hk204 (h, x0, x2, x3)
  replace hf : bM_init_204 n k204 h x0 x2 x3 = some h' := hf
  change V g yM_init cM_init 5 none rmM_init (ZQ g rmM_init h' none) 16 2011 h 204 [some (.ref x0), none, some (.int x2), some (.int x3), none] []
  unfold bM_init_204 at hf
  refine v_iload_n (i := 3) (pc := 204) dM_init_204 rfl rfl ?_
  refine v_bipush (pc := 205) (6:Int32) dM_init_205 rfl ?_
  refine v_icmp_gt (pc := 207) (tgt := 273) dM_init_207 rfl hf (fun hf => ?_) (fun hf => ?_)
  · exact v_vret (pc := 273) dM_init_273 (by decide) (by decide) hf
  refine v_iconst (pc := 210) (0:Int32) dM_init_210 rfl ?_
  refine v_istore (pc := 211) (ls' := [some (.ref x0), none, some (.int x2), some (.int x3), some (.int (0:Int32))]) dM_init_211 (by decide) rfl ?_
  refine v_wk (ls' := [some (.ref x0), none, some (.int x2), some (.int x3), some (.int (0:Int32))]) ⟨rfl, rfl, rfl, rfl, trivial⟩ ?_
  exact tM_init_213 hk204 n h x0 x2 x3 (0:Int32) hf
def fM_init_200 (n : Nat) (h : MH) (x0 : Nat) : Option MH := (fM_init_204 n h x0 (0:Int32) (1:Int32))
set_option maxRecDepth 20000 in
set_option maxHeartbeats 4000000 in
theorem tM_init_200 {g : Gh} {h' : MH} (n : Nat) (h : MH) (x0 : Nat) (hf : fM_init_200 n h x0 = some h') : V g yM_init cM_init 5 none rmM_init (ZQ g rmM_init h' none) 16 2011 h 200 [some (.ref x0), none, none, none, none] [] := by
  unfold fM_init_200 at hf
  refine v_iconst (pc := 200) (0:Int32) dM_init_200 rfl ?_
  refine v_istore_n (i := 2) (pc := 201) (ls' := [some (.ref x0), none, some (.int (0:Int32)), none, none]) dM_init_201 rfl (by decide) rfl ?_
  refine v_iconst (pc := 202) (1:Int32) dM_init_202 rfl ?_
  refine v_istore_n (i := 3) (pc := 203) (ls' := [some (.ref x0), none, some (.int (0:Int32)), some (.int (1:Int32)), none]) dM_init_203 rfl (by decide) rfl ?_
  refine v_wk (ls' := [some (.ref x0), none, some (.int (0:Int32)), some (.int (1:Int32)), none]) ⟨rfl, rfl, rfl, trivial⟩ ?_
  exact tM_init_204 n h x0 (0:Int32) (1:Int32) hf
def fM_init_197 (n : Nat) (h : MH) (s0 : Int32) (s1 : Nat) (x0 : Nat) : Option MH := ((pf h s1 [12] 2 (.int s0)).bind fun h1 => (fM_init_200 n h1 x0))
set_option maxRecDepth 20000 in
set_option maxHeartbeats 4000000 in
theorem tM_init_197 {g : Gh} {h' : MH} (n : Nat) (h : MH) (s0 : Int32) (s1 : Nat) (x0 : Nat) (hf : fM_init_197 n h s0 s1 x0 = some h') : V g yM_init cM_init 5 none rmM_init (ZQ g rmM_init h' none) 16 2011 h 197 [some (.ref x0), none, none, none, none] [.int s0, .ref s1] := by
  unfold fM_init_197 at hf
  refine v_putF (pc := 197) ffM_80 rfl (fun _ => ⟨rfl, rfl⟩) dM_init_197 hf (fun h1 hf => ?_)
  refine v_wk (ls' := [some (.ref x0), none, none, none, none]) ⟨rfl, trivial⟩ ?_
  exact tM_init_200 n h1 x0 hf
def fM_init_195 (n : Nat) (h : MH) (s0 : Nat) (x0 : Nat) : Option MH := (fM_init_197 n h (998244353:Int32) s0 x0)
set_option maxRecDepth 20000 in
set_option maxHeartbeats 4000000 in
theorem tM_init_195 {g : Gh} {h' : MH} (n : Nat) (h : MH) (s0 : Nat) (x0 : Nat) (hf : fM_init_195 n h s0 x0 = some h') : V g yM_init cM_init 5 none rmM_init (ZQ g rmM_init h' none) 16 2011 h 195 [some (.ref x0), none, none, none, none] [.ref s0] := by
  unfold fM_init_195 at hf
  refine v_ldc (pc := 195) dM_init_195 kiM_79 ?_
  refine v_wk (ls' := [some (.ref x0), none, none, none, none]) ⟨rfl, trivial⟩ ?_
  exact tM_init_197 n h (998244353:Int32) s0 x0 hf
def fM_init_169 (n : Nat) (h : MH) (x0 : Nat) (x1 : Int32) : Option MH := (bnd2 (fM_in h x1.toInt64 (101:Int64) (2000000000:Int64)) fun h1 i2 => (if i2 = (0:Int32) then (fM_init_195 n h1 x0 x0) else (bnd2 (fM_isPrime n h1 x1) fun h3 i4 => (if i4 = (0:Int32) then (fM_init_195 n h3 x0 x0) else (fM_init_197 n h3 x1 x0 x0)))))
set_option maxRecDepth 20000 in
set_option maxHeartbeats 4000000 in
theorem tM_init_169 {g : Gh} {h' : MH} (n : Nat) (h : MH) (x0 : Nat) (x1 : Int32) (hf : fM_init_169 n h x0 x1 = some h') : V g yM_init cM_init 5 none rmM_init (ZQ g rmM_init h' none) 16 2011 h 169 [some (.ref x0), some (.int x1), none, none, none] [] := by
  unfold fM_init_169 at hf
  refine v_aload_n (i := 0) (pc := 169) dM_init_169 rfl rfl ?_
  refine v_iload_n (i := 1) (pc := 170) dM_init_170 rfl rfl ?_
  refine v_i2l (pc := 171) dM_init_171 ?_
  refine v_ldc2 (pc := 172) dM_init_172 klM_67 ?_
  refine v_ldc2 (pc := 175) dM_init_175 klM_69 ?_
  obtain ⟨h1, i2, e6, hf⟩ := bndp hf
  refine v_S1 (pc := 178) (As := [.long x1.toInt64, .long (101:Int64), .long (2000000000:Int64)]) (rest := [.ref x0]) lsM_71 (sM_in e6) ⟨Nat.le_of_ble_eq_true rfl, Nat.le_of_ble_eq_true rfl, Nat.le_of_ble_eq_true rfl, Nat.le_of_ble_eq_true rfl⟩ dM_init_178 rfl rfl (Nat.le_of_ble_eq_true rfl) ?_
  refine v_if_eq (pc := 181) (tgt := 195) dM_init_181 rfl hf (fun hf => ?_) (fun hf => ?_)
  · refine v_wk (ls' := [some (.ref x0), none, none, none, none]) ⟨rfl, trivial⟩ ?_
    exact tM_init_195 n h1 x0 x0 hf
  refine v_iload_n (i := 1) (pc := 184) dM_init_184 rfl rfl ?_
  obtain ⟨h3, i4, e5, hf⟩ := bndp hf
  refine v_S1 (pc := 185) (As := [.int x1]) (rest := [.ref x0]) lsM_75 (sM_isPrime e5) ⟨Nat.le_of_ble_eq_true rfl, Nat.le_of_ble_eq_true rfl, Nat.le_of_ble_eq_true rfl, Nat.le_of_ble_eq_true rfl⟩ dM_init_185 rfl rfl (Nat.le_of_ble_eq_true rfl) ?_
  refine v_if_eq (pc := 188) (tgt := 195) dM_init_188 rfl hf (fun hf => ?_) (fun hf => ?_)
  · refine v_wk (ls' := [some (.ref x0), none, none, none, none]) ⟨rfl, trivial⟩ ?_
    exact tM_init_195 n h3 x0 x0 hf
  refine v_iload_n (i := 1) (pc := 191) dM_init_191 rfl rfl ?_
  refine v_goto (pc := 192) (tgt := 197) dM_init_192 rfl ?_
  refine v_wk (ls' := [some (.ref x0), none, none, none, none]) ⟨rfl, trivial⟩ ?_
  exact tM_init_197 n h3 x1 x0 x0 hf
def fM_init (n : Nat) (h : MH) (a_0 : Nat) (i_1 : Int32) : Option MH := (naI h (38:Int32) 38 fun h1 a2 => ((pf h1 a_0 [12] 3 (.ref a2)).bind fun h3 => (naI h3 (234:Int32) 234 fun h4 a5 => ((pf h4 a_0 [12] 4 (.ref a5)).bind fun h6 => (naI h6 (6:Int32) 6 fun h7 a8 => ((pf h7 a_0 [12] 5 (.ref a8)).bind fun h9 => (naI h9 (8:Int32) 8 fun h10 a11 => ((wrI h10 a11 (0:Int32) (-1:Int32)).bind fun h12 => ((wrI h12 a11 (1:Int32) (-1:Int32)).bind fun h13 => ((wrI h13 a11 (2:Int32) (-1:Int32)).bind fun h14 => ((wrI h14 a11 (3:Int32) (-1:Int32)).bind fun h15 => ((wrI h15 a11 (4:Int32) (-1:Int32)).bind fun h16 => ((wrI h16 a11 (5:Int32) (-1:Int32)).bind fun h17 => ((wrI h17 a11 (6:Int32) (-1:Int32)).bind fun h18 => ((wrI h18 a11 (7:Int32) (-1:Int32)).bind fun h19 => ((pf h19 a_0 [12] 6 (.ref a11)).bind fun h20 => (naI h20 (8:Int32) 8 fun h21 a22 => ((pf h21 a_0 [12] 7 (.ref a22)).bind fun h23 => (naL h23 (640:Int32) 640 fun h24 a25 => ((pf h24 a_0 [12] 8 (.ref a25)).bind fun h26 => (naI h26 (11:Int32) 11 fun h27 a28 => ((pf h27 a_0 [12] 9 (.ref a28)).bind fun h29 => (naL h29 (704:Int32) 704 fun h30 a31 => ((pf h30 a_0 [12] 10 (.ref a31)).bind fun h32 => (naL h32 (88:Int32) 88 fun h33 a34 => ((pf h33 a_0 [12] 11 (.ref a34)).bind fun h35 => (naI h35 (16:Int32) 16 fun h36 a37 => ((pf h36 a_0 [12] 12 (.ref a37)).bind fun h38 => (naL h38 (48:Int32) 48 fun h39 a40 => ((pf h39 a_0 [12] 14 (.ref a40)).bind fun h41 => (naL h41 (64:Int32) 64 fun h42 a43 => ((pf h42 a_0 [12] 15 (.ref a43)).bind fun h44 => (naL h44 (64:Int32) 64 fun h45 a46 => ((pf h45 a_0 [12] 16 (.ref a46)).bind fun h47 => (naL h47 (64:Int32) 64 fun h48 a49 => ((pf h48 a_0 [12] 17 (.ref a49)).bind fun h50 => (naL h50 (9:Int32) 9 fun h51 a52 => ((pf h51 a_0 [12] 18 (.ref a52)).bind fun h53 => (naL h53 (9:Int32) 9 fun h54 a55 => ((pf h54 a_0 [12] 19 (.ref a55)).bind fun h56 => (fM_init_169 n h56 a_0 i_1)))))))))))))))))))))))))))))))))))))))))
set_option maxRecDepth 20000 in
set_option maxHeartbeats 4000000 in
theorem sM_init {g : Gh} {h' : MH} {n : Nat} {h : MH} {a_0 : Nat} {i_1 : Int32} (hf : fM_init n h a_0 i_1 = some h') : Sp g yM_init cM_init 5 none rmM_init h [.ref a_0, .int i_1] h' none := by
  refine sp_of (by decide) (Nat.le_of_ble_eq_true rfl) ?_
  change V g yM_init cM_init 5 none rmM_init (ZQ g rmM_init h' none) 0 0 h 0 [some (.ref a_0), some (.int i_1), none, none, none] []
  unfold fM_init at hf
  refine v_aload_n (i := 0) (pc := 0) dM_init_0 rfl rfl ?_
  refine v_objInit (pc := 1) dM_init_1 mlM_11 obI obC (by decide) (Nat.le_of_ble_eq_true rfl) ?_
  refine v_aload_n (i := 0) (pc := 4) dM_init_4 rfl rfl ?_
  refine v_bipush (pc := 5) (38:Int32) dM_init_5 rfl ?_
  refine v_newI (pc := 7) dM_init_7 arI (by decide) (Nat.le_of_ble_eq_true rfl) (Nat.le_of_ble_eq_true rfl) hf (fun h1 a2 hf => ?_)
  refine v_putF (pc := 9) ffM_17 rfl (fun _ => ⟨rfl, rfl⟩) dM_init_9 hf (fun h3 hf => ?_)
  refine v_aload_n (i := 0) (pc := 12) dM_init_12 rfl rfl ?_
  refine v_sipush (pc := 13) (234:Int32) dM_init_13 rfl ?_
  refine v_newI (pc := 16) dM_init_16 arI (by decide) (Nat.le_of_ble_eq_true rfl) (Nat.le_of_ble_eq_true rfl) hf (fun h4 a5 hf => ?_)
  refine v_putF (pc := 18) ffM_21 rfl (fun _ => ⟨rfl, rfl⟩) dM_init_18 hf (fun h6 hf => ?_)
  refine v_aload_n (i := 0) (pc := 21) dM_init_21 rfl rfl ?_
  refine v_bipush (pc := 22) (6:Int32) dM_init_22 rfl ?_
  refine v_newI (pc := 24) dM_init_24 arI (by decide) (Nat.le_of_ble_eq_true rfl) (Nat.le_of_ble_eq_true rfl) hf (fun h7 a8 hf => ?_)
  refine v_putF (pc := 26) ffM_24 rfl (fun _ => ⟨rfl, rfl⟩) dM_init_26 hf (fun h9 hf => ?_)
  refine v_aload_n (i := 0) (pc := 29) dM_init_29 rfl rfl ?_
  refine v_bipush (pc := 30) (8:Int32) dM_init_30 rfl ?_
  refine v_newI (pc := 32) dM_init_32 arI (by decide) (Nat.le_of_ble_eq_true rfl) (Nat.le_of_ble_eq_true rfl) hf (fun h10 a11 hf => ?_)
  refine v_dup (pc := 34) dM_init_34 rfl ?_
  refine v_iconst (pc := 35) (0:Int32) dM_init_35 rfl ?_
  refine v_iconst (pc := 36) (-1:Int32) dM_init_36 rfl ?_
  refine v_iast (pc := 37) dM_init_37 hf (fun h12 hf => ?_)
  refine v_dup (pc := 38) dM_init_38 rfl ?_
  refine v_iconst (pc := 39) (1:Int32) dM_init_39 rfl ?_
  refine v_iconst (pc := 40) (-1:Int32) dM_init_40 rfl ?_
  refine v_iast (pc := 41) dM_init_41 hf (fun h13 hf => ?_)
  refine v_dup (pc := 42) dM_init_42 rfl ?_
  refine v_iconst (pc := 43) (2:Int32) dM_init_43 rfl ?_
  refine v_iconst (pc := 44) (-1:Int32) dM_init_44 rfl ?_
  refine v_iast (pc := 45) dM_init_45 hf (fun h14 hf => ?_)
  refine v_dup (pc := 46) dM_init_46 rfl ?_
  refine v_iconst (pc := 47) (3:Int32) dM_init_47 rfl ?_
  refine v_iconst (pc := 48) (-1:Int32) dM_init_48 rfl ?_
  refine v_iast (pc := 49) dM_init_49 hf (fun h15 hf => ?_)
  refine v_dup (pc := 50) dM_init_50 rfl ?_
  refine v_iconst (pc := 51) (4:Int32) dM_init_51 rfl ?_
  refine v_iconst (pc := 52) (-1:Int32) dM_init_52 rfl ?_
  refine v_iast (pc := 53) dM_init_53 hf (fun h16 hf => ?_)
  refine v_dup (pc := 54) dM_init_54 rfl ?_
  refine v_iconst (pc := 55) (5:Int32) dM_init_55 rfl ?_
  refine v_iconst (pc := 56) (-1:Int32) dM_init_56 rfl ?_
  refine v_iast (pc := 57) dM_init_57 hf (fun h17 hf => ?_)
  refine v_dup (pc := 58) dM_init_58 rfl ?_
  refine v_bipush (pc := 59) (6:Int32) dM_init_59 rfl ?_
  refine v_iconst (pc := 61) (-1:Int32) dM_init_61 rfl ?_
  refine v_iast (pc := 62) dM_init_62 hf (fun h18 hf => ?_)
  refine v_dup (pc := 63) dM_init_63 rfl ?_
  refine v_bipush (pc := 64) (7:Int32) dM_init_64 rfl ?_
  refine v_iconst (pc := 66) (-1:Int32) dM_init_66 rfl ?_
  refine v_iast (pc := 67) dM_init_67 hf (fun h19 hf => ?_)
  refine v_putF (pc := 68) ffM_27 rfl (fun _ => ⟨rfl, rfl⟩) dM_init_68 hf (fun h20 hf => ?_)
  refine v_aload_n (i := 0) (pc := 71) dM_init_71 rfl rfl ?_
  refine v_bipush (pc := 72) (8:Int32) dM_init_72 rfl ?_
  refine v_newI (pc := 74) dM_init_74 arI (by decide) (Nat.le_of_ble_eq_true rfl) (Nat.le_of_ble_eq_true rfl) hf (fun h21 a22 hf => ?_)
  refine v_putF (pc := 76) ffM_30 rfl (fun _ => ⟨rfl, rfl⟩) dM_init_76 hf (fun h23 hf => ?_)
  refine v_aload_n (i := 0) (pc := 79) dM_init_79 rfl rfl ?_
  refine v_sipush (pc := 80) (640:Int32) dM_init_80 rfl ?_
  refine v_newL (pc := 83) dM_init_83 arL (by decide) (Nat.le_of_ble_eq_true rfl) (Nat.le_of_ble_eq_true rfl) hf (fun h24 a25 hf => ?_)
  refine v_putF (pc := 85) ffM_33 rfl (fun _ => ⟨rfl, rfl⟩) dM_init_85 hf (fun h26 hf => ?_)
  refine v_aload_n (i := 0) (pc := 88) dM_init_88 rfl rfl ?_
  refine v_bipush (pc := 89) (11:Int32) dM_init_89 rfl ?_
  refine v_newI (pc := 91) dM_init_91 arI (by decide) (Nat.le_of_ble_eq_true rfl) (Nat.le_of_ble_eq_true rfl) hf (fun h27 a28 hf => ?_)
  refine v_putF (pc := 93) ffM_37 rfl (fun _ => ⟨rfl, rfl⟩) dM_init_93 hf (fun h29 hf => ?_)
  refine v_aload_n (i := 0) (pc := 96) dM_init_96 rfl rfl ?_
  refine v_sipush (pc := 97) (704:Int32) dM_init_97 rfl ?_
  refine v_newL (pc := 100) dM_init_100 arL (by decide) (Nat.le_of_ble_eq_true rfl) (Nat.le_of_ble_eq_true rfl) hf (fun h30 a31 hf => ?_)
  refine v_putF (pc := 102) ffM_40 rfl (fun _ => ⟨rfl, rfl⟩) dM_init_102 hf (fun h32 hf => ?_)
  refine v_aload_n (i := 0) (pc := 105) dM_init_105 rfl rfl ?_
  refine v_bipush (pc := 106) (88:Int32) dM_init_106 rfl ?_
  refine v_newL (pc := 108) dM_init_108 arL (by decide) (Nat.le_of_ble_eq_true rfl) (Nat.le_of_ble_eq_true rfl) hf (fun h33 a34 hf => ?_)
  refine v_putF (pc := 110) ffM_43 rfl (fun _ => ⟨rfl, rfl⟩) dM_init_110 hf (fun h35 hf => ?_)
  refine v_aload_n (i := 0) (pc := 113) dM_init_113 rfl rfl ?_
  refine v_bipush (pc := 114) (16:Int32) dM_init_114 rfl ?_
  refine v_newI (pc := 116) dM_init_116 arI (by decide) (Nat.le_of_ble_eq_true rfl) (Nat.le_of_ble_eq_true rfl) hf (fun h36 a37 hf => ?_)
  refine v_putF (pc := 118) ffM_46 rfl (fun _ => ⟨rfl, rfl⟩) dM_init_118 hf (fun h38 hf => ?_)
  refine v_aload_n (i := 0) (pc := 121) dM_init_121 rfl rfl ?_
  refine v_bipush (pc := 122) (48:Int32) dM_init_122 rfl ?_
  refine v_newL (pc := 124) dM_init_124 arL (by decide) (Nat.le_of_ble_eq_true rfl) (Nat.le_of_ble_eq_true rfl) hf (fun h39 a40 hf => ?_)
  refine v_putF (pc := 126) ffM_49 rfl (fun _ => ⟨rfl, rfl⟩) dM_init_126 hf (fun h41 hf => ?_)
  refine v_aload_n (i := 0) (pc := 129) dM_init_129 rfl rfl ?_
  refine v_bipush (pc := 130) (64:Int32) dM_init_130 rfl ?_
  refine v_newL (pc := 132) dM_init_132 arL (by decide) (Nat.le_of_ble_eq_true rfl) (Nat.le_of_ble_eq_true rfl) hf (fun h42 a43 hf => ?_)
  refine v_putF (pc := 134) ffM_52 rfl (fun _ => ⟨rfl, rfl⟩) dM_init_134 hf (fun h44 hf => ?_)
  refine v_aload_n (i := 0) (pc := 137) dM_init_137 rfl rfl ?_
  refine v_bipush (pc := 138) (64:Int32) dM_init_138 rfl ?_
  refine v_newL (pc := 140) dM_init_140 arL (by decide) (Nat.le_of_ble_eq_true rfl) (Nat.le_of_ble_eq_true rfl) hf (fun h45 a46 hf => ?_)
  refine v_putF (pc := 142) ffM_55 rfl (fun _ => ⟨rfl, rfl⟩) dM_init_142 hf (fun h47 hf => ?_)
  refine v_aload_n (i := 0) (pc := 145) dM_init_145 rfl rfl ?_
  refine v_bipush (pc := 146) (64:Int32) dM_init_146 rfl ?_
  refine v_newL (pc := 148) dM_init_148 arL (by decide) (Nat.le_of_ble_eq_true rfl) (Nat.le_of_ble_eq_true rfl) hf (fun h48 a49 hf => ?_)
  refine v_putF (pc := 150) ffM_58 rfl (fun _ => ⟨rfl, rfl⟩) dM_init_150 hf (fun h50 hf => ?_)
  refine v_aload_n (i := 0) (pc := 153) dM_init_153 rfl rfl ?_
  refine v_bipush (pc := 154) (9:Int32) dM_init_154 rfl ?_
  refine v_newL (pc := 156) dM_init_156 arL (by decide) (Nat.le_of_ble_eq_true rfl) (Nat.le_of_ble_eq_true rfl) hf (fun h51 a52 hf => ?_)
  refine v_putF (pc := 158) ffM_61 rfl (fun _ => ⟨rfl, rfl⟩) dM_init_158 hf (fun h53 hf => ?_)
  refine v_aload_n (i := 0) (pc := 161) dM_init_161 rfl rfl ?_
  refine v_bipush (pc := 162) (9:Int32) dM_init_162 rfl ?_
  refine v_newL (pc := 164) dM_init_164 arL (by decide) (Nat.le_of_ble_eq_true rfl) (Nat.le_of_ble_eq_true rfl) hf (fun h54 a55 hf => ?_)
  refine v_putF (pc := 166) ffM_64 rfl (fun _ => ⟨rfl, rfl⟩) dM_init_166 hf (fun h56 hf => ?_)
  refine v_wk (ls' := [some (.ref a_0), some (.int i_1), none, none, none]) ⟨rfl, rfl, trivial⟩ ?_
  exact tM_init_169 n h56 a_0 i_1 hf
abbrev rmM_isTree : Room := { frames := 1, cells := 0, slots := 0, locals := 25 }
def fM_isTree (h : MH) (i_0 : Int32) : Option (MH × Int32) := (bnd2 (fM_in h i_0.toInt64 (0:Int64) (36:Int64)) fun h1 i2 => (retZ h1 i2))
set_option maxRecDepth 20000 in
set_option maxHeartbeats 4000000 in
theorem sM_isTree {g : Gh} {h' : MH} {r' : Int32} {h : MH} {i_0 : Int32} (hf : fM_isTree h i_0 = some (h', r')) : Sp g yM_isTree cM_isTree 1 (some .boolean) rmM_isTree h [.int i_0] h' (some (.int r')) := by
  refine sp_of (by decide) (Nat.le_of_ble_eq_true rfl) ?_
  change V g yM_isTree cM_isTree 1 (some .boolean) rmM_isTree (ZQ g rmM_isTree h' (some (.int r'))) 0 0 h 0 [some (.int i_0)] []
  unfold fM_isTree at hf
  refine v_iload_n (i := 0) (pc := 0) dM_isTree_0 rfl rfl ?_
  refine v_i2l (pc := 1) dM_isTree_1 ?_
  refine v_lconst (pc := 2) (0:Int64) dM_isTree_2 rfl ?_
  refine v_ldc2 (pc := 3) dM_isTree_3 klM_86 ?_
  obtain ⟨h1, i2, e3, hf⟩ := bndp hf
  refine v_S1 (pc := 6) (As := [.long i_0.toInt64, .long (0:Int64), .long (36:Int64)]) (rest := []) lsM_71 (sM_in e3) ⟨Nat.le_of_ble_eq_true rfl, Nat.le_of_ble_eq_true rfl, Nat.le_of_ble_eq_true rfl, Nat.le_of_ble_eq_true rfl⟩ dM_isTree_6 rfl rfl (Nat.le_of_ble_eq_true rfl) ?_
  exact v_zret (pc := 9) dM_isTree_9 (by decide) (by decide) hf
abbrev rmM_trees : Room := { frames := 1, cells := 0, slots := 0, locals := 25 }
def fM_trees_46 (k24 : (MH × Nat × Int32 × Int32 × Int32) → Option (MH × Int32)) (n : Nat) (h : MH) (s0 : Int32) (s1 : Int32) (x0 : Nat) (x1 : Int32) (x3 : Int32) : Option (MH × Int32) := (k24 (h, x0, x1, (s1 + s0), (x3 + (1:Int32))))
set_option maxRecDepth 20000 in
set_option maxHeartbeats 4000000 in
theorem tM_trees_46 {g : Gh} {h' : MH} {r' : Int32} {k24 : (MH × Nat × Int32 × Int32 × Int32) → Option (MH × Int32)} (hk24 : ∀ (h : MH) (x0 : Nat) (x1 : Int32) (x2 : Int32) (x3 : Int32), k24 (h, x0, x1, x2, x3) = some (h', r') → V g yM_trees cM_trees 4 (some .int) rmM_trees (ZQ g rmM_trees h' (some (.int r'))) 0 0 h 24 [some (.ref x0), some (.int x1), some (.int x2), some (.int x3)] []) (n : Nat) (h : MH) (s0 : Int32) (s1 : Int32) (x0 : Nat) (x1 : Int32) (x3 : Int32) (hf : fM_trees_46 k24 n h s0 s1 x0 x1 x3 = some (h', r')) : V g yM_trees cM_trees 4 (some .int) rmM_trees (ZQ g rmM_trees h' (some (.int r'))) 0 0 h 46 [some (.ref x0), some (.int x1), none, some (.int x3)] [.int s0, .int s1] := by
  unfold fM_trees_46 at hf
  refine v_iadd (pc := 46) dM_trees_46 ?_
  refine v_istore_n (i := 2) (pc := 47) (ls' := [some (.ref x0), some (.int x1), some (.int (s1 + s0)), some (.int x3)]) dM_trees_47 rfl (by decide) rfl ?_
  refine v_iinc (pc := 48) (v := (x3 + (1:Int32))) (ls' := [some (.ref x0), some (.int x1), some (.int (s1 + s0)), some (.int (x3 + (1:Int32)))]) dM_trees_48 rfl rfl (by decide) rfl ?_
  refine v_goto (pc := 51) (tgt := 24) dM_trees_51 rfl ?_
  refine v_wk (ls' := [some (.ref x0), some (.int x1), some (.int (s1 + s0)), some (.int (x3 + (1:Int32)))]) ⟨rfl, rfl, rfl, rfl, trivial⟩ ?_
  exact hk24 h x0 x1 (s1 + s0) (x3 + (1:Int32)) hf
def bM_trees_24 (n : Nat) (k24 : (MH × Nat × Int32 × Int32 × Int32) → Option (MH × Int32)) (h : MH) (x0 : Nat) (x1 : Int32) (x2 : Int32) (x3 : Int32) : Option (MH × Int32) := (if (37:Int32) ≤ x3 then (some (h, x2)) else ((gfR h x0 [12] 3).bind fun a1 => ((rdI h a1 x3).bind fun i2 => (if i2 = x1 then (fM_trees_46 k24 n h (1:Int32) x2 x0 x1 x3) else (fM_trees_46 k24 n h (0:Int32) x2 x0 x1 x3)))))
def fM_trees_24 (n : Nat) (h : MH) (x0 : Nat) (x1 : Int32) (x2 : Int32) (x3 : Int32) : Option (MH × Int32) := lp (fun n k s => bM_trees_24 n k s.1 s.2.1 s.2.2.1 s.2.2.2.1 s.2.2.2.2) n (h, x0, x1, x2, x3)
set_option maxRecDepth 20000 in
set_option maxHeartbeats 4000000 in
theorem tM_trees_24 {g : Gh} {h' : MH} {r' : Int32} (n : Nat) (h : MH) (x0 : Nat) (x1 : Int32) (x2 : Int32) (x3 : Int32) (hf : fM_trees_24 n h x0 x1 x2 x3 = some (h', r')) : V g yM_trees cM_trees 4 (some .int) rmM_trees (ZQ g rmM_trees h' (some (.int r'))) 0 0 h 24 [some (.ref x0), some (.int x1), some (.int x2), some (.int x3)] [] := by
  unfold fM_trees_24 at hf
  refine lp_ind (P := fun s => V g yM_trees cM_trees 4 (some .int) rmM_trees (ZQ g rmM_trees h' (some (.int r'))) 0 0 s.1 24 [some (.ref s.2.1), some (.int s.2.2.1), some (.int s.2.2.2.1), some (.int s.2.2.2.2)] []) (fun n k24 hk24 s hf => ?_) n (h, x0, x1, x2, x3) hf
  obtain ⟨h, x0, x1, x2, x3⟩ := s
  replace hk24 : ∀ (h : MH) (x0 : Nat) (x1 : Int32) (x2 : Int32) (x3 : Int32), k24 (h, x0, x1, x2, x3) = some (h', r') → V g yM_trees cM_trees 4 (some .int) rmM_trees (ZQ g rmM_trees h' (some (.int r'))) 0 0 h 24 [some (.ref x0), some (.int x1), some (.int x2), some (.int x3)] [] := fun h x0 x1 x2 x3 => hk24 (h, x0, x1, x2, x3)
  replace hf : bM_trees_24 n k24 h x0 x1 x2 x3 = some (h', r') := hf
  change V g yM_trees cM_trees 4 (some .int) rmM_trees (ZQ g rmM_trees h' (some (.int r'))) 0 0 h 24 [some (.ref x0), some (.int x1), some (.int x2), some (.int x3)] []
  unfold bM_trees_24 at hf
  refine v_iload_n (i := 3) (pc := 24) dM_trees_24 rfl rfl ?_
  refine v_bipush (pc := 25) (37:Int32) dM_trees_25 rfl ?_
  refine v_icmp_ge (pc := 27) (tgt := 54) dM_trees_27 rfl hf (fun hf => ?_) (fun hf => ?_)
  · refine v_iload_n (i := 2) (pc := 54) dM_trees_54 rfl rfl ?_
    exact v_iret (pc := 55) dM_trees_55 (by decide) (by decide) hf
  refine v_iload_n (i := 2) (pc := 30) dM_trees_30 rfl rfl ?_
  refine v_aload_n (i := 0) (pc := 31) dM_trees_31 rfl rfl ?_
  refine v_getR (pc := 32) fgM_17 dM_trees_32 hf (fun a1 hf => ?_)
  refine v_iload_n (i := 3) (pc := 35) dM_trees_35 rfl rfl ?_
  refine v_iald (pc := 36) dM_trees_36 hf (fun i2 hf => ?_)
  refine v_iload_n (i := 1) (pc := 37) dM_trees_37 rfl rfl ?_
  refine v_icmp_ne (pc := 38) (tgt := 45) dM_trees_38 rfl hf (fun hf => ?_) (fun hf => ?_)
  rotate_left
  · refine v_iconst (pc := 45) (0:Int32) dM_trees_45 rfl ?_
    refine v_wk (ls' := [some (.ref x0), some (.int x1), none, some (.int x3)]) ⟨rfl, rfl, rfl, trivial⟩ ?_
    exact tM_trees_46 hk24 n h (0:Int32) x2 x0 x1 x3 hf
  refine v_iconst (pc := 41) (1:Int32) dM_trees_41 rfl ?_
  refine v_goto (pc := 42) (tgt := 46) dM_trees_42 rfl ?_
  refine v_wk (ls' := [some (.ref x0), some (.int x1), none, some (.int x3)]) ⟨rfl, rfl, rfl, trivial⟩ ?_
  exact tM_trees_46 hk24 n h (1:Int32) x2 x0 x1 x3 hf
def fM_trees (n : Nat) (h : MH) (a_0 : Nat) (i_1 : Int32) : Option (MH × Int32) := ((pf h a_0 [12] 0 (.int (0:Int32))).bind fun h1 => (bnd2 (fM_in h1 i_1.toInt64 (1:Int64) (6:Int64)) fun h2 i3 => (if i3 = (0:Int32) then (some (h2, (-1000001:Int32))) else (fM_trees_24 n h2 a_0 i_1 (0:Int32) (0:Int32)))))
set_option maxRecDepth 20000 in
set_option maxHeartbeats 4000000 in
theorem sM_trees {g : Gh} {h' : MH} {r' : Int32} {n : Nat} {h : MH} {a_0 : Nat} {i_1 : Int32} (hf : fM_trees n h a_0 i_1 = some (h', r')) : Sp g yM_trees cM_trees 4 (some .int) rmM_trees h [.ref a_0, .int i_1] h' (some (.int r')) := by
  refine sp_of (by decide) (Nat.le_of_ble_eq_true rfl) ?_
  change V g yM_trees cM_trees 4 (some .int) rmM_trees (ZQ g rmM_trees h' (some (.int r'))) 0 0 h 0 [some (.ref a_0), some (.int i_1), none, none] []
  unfold fM_trees at hf
  refine v_aload_n (i := 0) (pc := 0) dM_trees_0 rfl rfl ?_
  refine v_iconst (pc := 1) (0:Int32) dM_trees_1 rfl ?_
  refine v_put (pc := 2) fpM_1 (fun _ => ⟨rfl, rfl⟩) dM_trees_2 hf (fun h1 hf => ?_)
  refine v_iload_n (i := 1) (pc := 5) dM_trees_5 rfl rfl ?_
  refine v_i2l (pc := 6) dM_trees_6 ?_
  refine v_lconst (pc := 7) (1:Int64) dM_trees_7 rfl ?_
  refine v_ldc2 (pc := 8) dM_trees_8 klM_88 ?_
  obtain ⟨h2, i3, e4, hf⟩ := bndp hf
  refine v_S1 (pc := 11) (As := [.long i_1.toInt64, .long (1:Int64), .long (6:Int64)]) (rest := []) lsM_71 (sM_in e4) ⟨Nat.le_of_ble_eq_true rfl, Nat.le_of_ble_eq_true rfl, Nat.le_of_ble_eq_true rfl, Nat.le_of_ble_eq_true rfl⟩ dM_trees_11 rfl rfl (Nat.le_of_ble_eq_true rfl) ?_
  refine v_if_ne (pc := 14) (tgt := 20) dM_trees_14 rfl hf (fun hf => ?_) (fun hf => ?_)
  · refine v_ldc (pc := 17) dM_trees_17 kiM_90 ?_
    exact v_iret (pc := 19) dM_trees_19 (by decide) (by decide) hf
  refine v_iconst (pc := 20) (0:Int32) dM_trees_20 rfl ?_
  refine v_istore_n (i := 2) (pc := 21) (ls' := [some (.ref a_0), some (.int i_1), some (.int (0:Int32)), none]) dM_trees_21 rfl (by decide) rfl ?_
  refine v_iconst (pc := 22) (0:Int32) dM_trees_22 rfl ?_
  refine v_istore_n (i := 3) (pc := 23) (ls' := [some (.ref a_0), some (.int i_1), some (.int (0:Int32)), some (.int (0:Int32))]) dM_trees_23 rfl (by decide) rfl ?_
  refine v_wk (ls' := [some (.ref a_0), some (.int i_1), some (.int (0:Int32)), some (.int (0:Int32))]) ⟨rfl, rfl, rfl, rfl, trivial⟩ ?_
  exact tM_trees_24 n h2 a_0 i_1 (0:Int32) (0:Int32) hf
abbrev rmM_endOf : Room := { frames := 0, cells := 0, slots := 0, locals := 0 }
def bM_endOf_4 (n : Nat) (k4 : (MH × Nat × Int32 × Int32 × Int32) → Option (MH × Int32)) (h : MH) (x0 : Nat) (x1 : Int32) (x2 : Int32) (x3 : Int32) : Option (MH × Int32) := ((gfR h x0 [12] 3).bind fun a1 => ((rdI h a1 x1).bind fun i2 => (if i2 ≤ x3 then (some (h, x3)) else ((gfR h x0 [12] 4).bind fun a3 => ((rdI h a3 (((6:Int32) * x1) + x3)).bind fun i4 => ((gfR h x0 [12] 4).bind fun a5 => ((rdI h a5 (((6:Int32) * x1) + x2)).bind fun i6 => (if i4 ≤ i6 then (some (h, x3)) else (k4 (h, x0, x1, x2, (x3 + (1:Int32))))))))))))
def fM_endOf_4 (n : Nat) (h : MH) (x0 : Nat) (x1 : Int32) (x2 : Int32) (x3 : Int32) : Option (MH × Int32) := lp (fun n k s => bM_endOf_4 n k s.1 s.2.1 s.2.2.1 s.2.2.2.1 s.2.2.2.2) n (h, x0, x1, x2, x3)
set_option maxRecDepth 20000 in
set_option maxHeartbeats 4000000 in
theorem tM_endOf_4 {g : Gh} {h' : MH} {r' : Int32} (n : Nat) (h : MH) (x0 : Nat) (x1 : Int32) (x2 : Int32) (x3 : Int32) (hf : fM_endOf_4 n h x0 x1 x2 x3 = some (h', r')) : V g yM_endOf cM_endOf 4 (some .int) rmM_endOf (ZQ g rmM_endOf h' (some (.int r'))) 0 0 h 4 [some (.ref x0), some (.int x1), some (.int x2), some (.int x3)] [] := by
  unfold fM_endOf_4 at hf
  refine lp_ind (P := fun s => V g yM_endOf cM_endOf 4 (some .int) rmM_endOf (ZQ g rmM_endOf h' (some (.int r'))) 0 0 s.1 4 [some (.ref s.2.1), some (.int s.2.2.1), some (.int s.2.2.2.1), some (.int s.2.2.2.2)] []) (fun n k4 hk4 s hf => ?_) n (h, x0, x1, x2, x3) hf
  obtain ⟨h, x0, x1, x2, x3⟩ := s
  replace hk4 : ∀ (h : MH) (x0 : Nat) (x1 : Int32) (x2 : Int32) (x3 : Int32), k4 (h, x0, x1, x2, x3) = some (h', r') → V g yM_endOf cM_endOf 4 (some .int) rmM_endOf (ZQ g rmM_endOf h' (some (.int r'))) 0 0 h 4 [some (.ref x0), some (.int x1), some (.int x2), some (.int x3)] [] := fun h x0 x1 x2 x3 => hk4 (h, x0, x1, x2, x3)
  replace hf : bM_endOf_4 n k4 h x0 x1 x2 x3 = some (h', r') := hf
  change V g yM_endOf cM_endOf 4 (some .int) rmM_endOf (ZQ g rmM_endOf h' (some (.int r'))) 0 0 h 4 [some (.ref x0), some (.int x1), some (.int x2), some (.int x3)] []
  unfold bM_endOf_4 at hf
  refine v_iload_n (i := 3) (pc := 4) dM_endOf_4 rfl rfl ?_
  refine v_aload_n (i := 0) (pc := 5) dM_endOf_5 rfl rfl ?_
  refine v_getR (pc := 6) fgM_17 dM_endOf_6 hf (fun a1 hf => ?_)
  refine v_iload_n (i := 1) (pc := 9) dM_endOf_9 rfl rfl ?_
  refine v_iald (pc := 10) dM_endOf_10 hf (fun i2 hf => ?_)
  refine v_icmp_ge (pc := 11) (tgt := 45) dM_endOf_11 rfl hf (fun hf => ?_) (fun hf => ?_)
  · refine v_iload_n (i := 3) (pc := 45) dM_endOf_45 rfl rfl ?_
    exact v_iret (pc := 46) dM_endOf_46 (by decide) (by decide) hf
  refine v_aload_n (i := 0) (pc := 14) dM_endOf_14 rfl rfl ?_
  refine v_getR (pc := 15) fgM_21 dM_endOf_15 hf (fun a3 hf => ?_)
  refine v_bipush (pc := 18) (6:Int32) dM_endOf_18 rfl ?_
  refine v_iload_n (i := 1) (pc := 20) dM_endOf_20 rfl rfl ?_
  refine v_imul (pc := 21) dM_endOf_21 ?_
  refine v_iload_n (i := 3) (pc := 22) dM_endOf_22 rfl rfl ?_
  refine v_iadd (pc := 23) dM_endOf_23 ?_
  refine v_iald (pc := 24) dM_endOf_24 hf (fun i4 hf => ?_)
  refine v_aload_n (i := 0) (pc := 25) dM_endOf_25 rfl rfl ?_
  refine v_getR (pc := 26) fgM_21 dM_endOf_26 hf (fun a5 hf => ?_)
  refine v_bipush (pc := 29) (6:Int32) dM_endOf_29 rfl ?_
  refine v_iload_n (i := 1) (pc := 31) dM_endOf_31 rfl rfl ?_
  refine v_imul (pc := 32) dM_endOf_32 ?_
  refine v_iload_n (i := 2) (pc := 33) dM_endOf_33 rfl rfl ?_
  refine v_iadd (pc := 34) dM_endOf_34 ?_
  refine v_iald (pc := 35) dM_endOf_35 hf (fun i6 hf => ?_)
  refine v_icmp_le (pc := 36) (tgt := 45) dM_endOf_36 rfl hf (fun hf => ?_) (fun hf => ?_)
  · refine v_iload_n (i := 3) (pc := 45) dM_endOf_45 rfl rfl ?_
    exact v_iret (pc := 46) dM_endOf_46 (by decide) (by decide) hf
  refine v_iinc (pc := 39) (v := (x3 + (1:Int32))) (ls' := [some (.ref x0), some (.int x1), some (.int x2), some (.int (x3 + (1:Int32)))]) dM_endOf_39 rfl rfl (by decide) rfl ?_
  refine v_goto (pc := 42) (tgt := 4) dM_endOf_42 rfl ?_
  refine v_wk (ls' := [some (.ref x0), some (.int x1), some (.int x2), some (.int (x3 + (1:Int32)))]) ⟨rfl, rfl, rfl, rfl, trivial⟩ ?_
  exact hk4 h x0 x1 x2 (x3 + (1:Int32)) hf
def fM_endOf (n : Nat) (h : MH) (a_0 : Nat) (i_1 : Int32) (i_2 : Int32) : Option (MH × Int32) := (fM_endOf_4 n h a_0 i_1 i_2 (i_2 + (1:Int32)))
set_option maxRecDepth 20000 in
set_option maxHeartbeats 4000000 in
theorem sM_endOf {g : Gh} {h' : MH} {r' : Int32} {n : Nat} {h : MH} {a_0 : Nat} {i_1 : Int32} {i_2 : Int32} (hf : fM_endOf n h a_0 i_1 i_2 = some (h', r')) : Sp g yM_endOf cM_endOf 4 (some .int) rmM_endOf h [.ref a_0, .int i_1, .int i_2] h' (some (.int r')) := by
  refine sp_of (by decide) (Nat.le_of_ble_eq_true rfl) ?_
  change V g yM_endOf cM_endOf 4 (some .int) rmM_endOf (ZQ g rmM_endOf h' (some (.int r'))) 0 0 h 0 [some (.ref a_0), some (.int i_1), some (.int i_2), none] []
  unfold fM_endOf at hf
  refine v_iload_n (i := 2) (pc := 0) dM_endOf_0 rfl rfl ?_
  refine v_iconst (pc := 1) (1:Int32) dM_endOf_1 rfl ?_
  refine v_iadd (pc := 2) dM_endOf_2 ?_
  refine v_istore_n (i := 3) (pc := 3) (ls' := [some (.ref a_0), some (.int i_1), some (.int i_2), some (.int (i_2 + (1:Int32)))]) dM_endOf_3 rfl (by decide) rfl ?_
  refine v_wk (ls' := [some (.ref a_0), some (.int i_1), some (.int i_2), some (.int (i_2 + (1:Int32)))]) ⟨rfl, rfl, rfl, rfl, trivial⟩ ?_
  exact tM_endOf_4 n h a_0 i_1 i_2 (i_2 + (1:Int32)) hf

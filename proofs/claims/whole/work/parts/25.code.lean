abbrev rmM_power : Room := { frames := 0, cells := 0, slots := 0, locals := 0 }
def bM_power_6 (n : Nat) (k6 : (MH × Nat × Int64 × Int32 × Int64 × Int32) → Option (MH × Int64)) (h : MH) (x0 : Nat) (x1 : Int64) (x3 : Int32) (x4 : Int64) (x6 : Int32) : Option (MH × Int64) := (if x3 ≤ x6 then (some (h, x4)) else ((gfI h x0 [12] 2).bind fun i1 => (nzL i1.toInt64 (k6 (h, x0, x1, x3, (lrm (x4 * x1) i1.toInt64), (x6 + (1:Int32)))))))
def fM_power_6 (n : Nat) (h : MH) (x0 : Nat) (x1 : Int64) (x3 : Int32) (x4 : Int64) (x6 : Int32) : Option (MH × Int64) := lp (fun n k s => bM_power_6 n k s.1 s.2.1 s.2.2.1 s.2.2.2.1 s.2.2.2.2.1 s.2.2.2.2.2) n (h, x0, x1, x3, x4, x6)
set_option maxRecDepth 20000 in
set_option maxHeartbeats 4000000 in
theorem tM_power_6 {g : Gh} {h' : MH} {r' : Int64} (n : Nat) (h : MH) (x0 : Nat) (x1 : Int64) (x3 : Int32) (x4 : Int64) (x6 : Int32) (hf : fM_power_6 n h x0 x1 x3 x4 x6 = some (h', r')) : V g yM_power cM_power 7 (some .long) rmM_power (ZQ g rmM_power h' (some (.long r'))) 0 0 h 6 [some (.ref x0), some (.long x1), none, some (.int x3), some (.long x4), none, some (.int x6)] [] := by
  unfold fM_power_6 at hf
  refine lp_ind (P := fun s => V g yM_power cM_power 7 (some .long) rmM_power (ZQ g rmM_power h' (some (.long r'))) 0 0 s.1 6 [some (.ref s.2.1), some (.long s.2.2.1), none, some (.int s.2.2.2.1), some (.long s.2.2.2.2.1), none, some (.int s.2.2.2.2.2)] []) (fun n k6 hk6 s hf => ?_) n (h, x0, x1, x3, x4, x6) hf
  obtain ⟨h, x0, x1, x3, x4, x6⟩ := s
  replace hk6 : ∀ (h : MH) (x0 : Nat) (x1 : Int64) (x3 : Int32) (x4 : Int64) (x6 : Int32), k6 (h, x0, x1, x3, x4, x6) = some (h', r') → V g yM_power cM_power 7 (some .long) rmM_power (ZQ g rmM_power h' (some (.long r'))) 0 0 h 6 [some (.ref x0), some (.long x1), none, some (.int x3), some (.long x4), none, some (.int x6)] [] := fun h x0 x1 x3 x4 x6 => hk6 (h, x0, x1, x3, x4, x6)
  replace hf : bM_power_6 n k6 h x0 x1 x3 x4 x6 = some (h', r') := hf
  change V g yM_power cM_power 7 (some .long) rmM_power (ZQ g rmM_power h' (some (.long r'))) 0 0 h 6 [some (.ref x0), some (.long x1), none, some (.int x3), some (.long x4), none, some (.int x6)] []
  unfold bM_power_6 at hf
  refine v_iload (pc := 6) dM_power_6 rfl ?_
  refine v_iload_n (i := 3) (pc := 8) dM_power_8 rfl rfl ?_
  refine v_icmp_ge (pc := 9) (tgt := 30) dM_power_9 rfl hf (fun hf => ?_) (fun hf => ?_)
  · refine v_lload (pc := 30) dM_power_30 rfl ?_
    exact v_lret (pc := 32) dM_power_32 (by decide) (by decide) hf
  refine v_lload (pc := 12) dM_power_12 rfl ?_
  refine v_lload_n (i := 1) (pc := 14) dM_power_14 rfl rfl ?_
  refine v_lmul (pc := 15) dM_power_15 ?_
  refine v_aload_n (i := 0) (pc := 16) dM_power_16 rfl rfl ?_
  refine v_getI (pc := 17) fgM_80 dM_power_17 hf (fun i1 hf => ?_)
  refine v_i2l (pc := 20) dM_power_20 ?_
  obtain ⟨z2, hf⟩ := nzL_of hf
  refine v_lrem (pc := 21) dM_power_21 z2 ?_
  refine v_lstore (pc := 22) (ls' := [some (.ref x0), some (.long x1), none, some (.int x3), some (.long (lrm (x4 * x1) i1.toInt64)), none, some (.int x6)]) dM_power_22 (by decide) rfl ?_
  refine v_iinc (pc := 24) (v := (x6 + (1:Int32))) (ls' := [some (.ref x0), some (.long x1), none, some (.int x3), some (.long (lrm (x4 * x1) i1.toInt64)), none, some (.int (x6 + (1:Int32)))]) dM_power_24 rfl rfl (by decide) rfl ?_
  refine v_goto (pc := 27) (tgt := 6) dM_power_27 rfl ?_
  refine v_wk (ls' := [some (.ref x0), some (.long x1), none, some (.int x3), some (.long (lrm (x4 * x1) i1.toInt64)), none, some (.int (x6 + (1:Int32)))]) ⟨rfl, rfl, rfl, rfl, rfl, trivial⟩ ?_
  exact hk6 h x0 x1 x3 (lrm (x4 * x1) i1.toInt64) (x6 + (1:Int32)) hf
def fM_power (n : Nat) (h : MH) (a_0 : Nat) (j_1 : Int64) (i_2 : Int32) : Option (MH × Int64) := (fM_power_6 n h a_0 j_1 i_2 (1:Int64) (0:Int32))
set_option maxRecDepth 20000 in
set_option maxHeartbeats 4000000 in
theorem sM_power {g : Gh} {h' : MH} {r' : Int64} {n : Nat} {h : MH} {a_0 : Nat} {j_1 : Int64} {i_2 : Int32} (hf : fM_power n h a_0 j_1 i_2 = some (h', r')) : Sp g yM_power cM_power 7 (some .long) rmM_power h [.ref a_0, .long j_1, .int i_2] h' (some (.long r')) := by
  refine sp_of (by decide) (Nat.le_of_ble_eq_true rfl) ?_
  change V g yM_power cM_power 7 (some .long) rmM_power (ZQ g rmM_power h' (some (.long r'))) 0 0 h 0 [some (.ref a_0), some (.long j_1), none, some (.int i_2), none, none, none] []
  unfold fM_power at hf
  refine v_lconst (pc := 0) (1:Int64) dM_power_0 rfl ?_
  refine v_lstore (pc := 1) (ls' := [some (.ref a_0), some (.long j_1), none, some (.int i_2), some (.long (1:Int64)), none, none]) dM_power_1 (by decide) rfl ?_
  refine v_iconst (pc := 3) (0:Int32) dM_power_3 rfl ?_
  refine v_istore (pc := 4) (ls' := [some (.ref a_0), some (.long j_1), none, some (.int i_2), some (.long (1:Int64)), none, some (.int (0:Int32))]) dM_power_4 (by decide) rfl ?_
  refine v_wk (ls' := [some (.ref a_0), some (.long j_1), none, some (.int i_2), some (.long (1:Int64)), none, some (.int (0:Int32))]) ⟨rfl, rfl, rfl, rfl, rfl, trivial⟩ ?_
  exact tM_power_6 n h a_0 j_1 i_2 (1:Int64) (0:Int32) hf
abbrev rmM_ride : Room := { frames := 2, cells := 0, slots := 0, locals := 45 }
def bM_ride_113 (k88 : (MH × Nat × Int32 × Int32 × Int32 × Int32 × Int32 × Int64 × Int64 × Int32) → Option (MH × Int32)) (k100 : (MH × Nat × Int32 × Int32 × Int32 × Int32 × Int32 × Int64 × Int64 × Int32 × Int64 × Int32) → Option (MH × Int32)) (n : Nat) (k113 : (MH × Nat × Int32 × Int32 × Int32 × Int32 × Int32 × Int64 × Int64 × Int32 × Int64 × Int32 × Int64 × Int32) → Option (MH × Int32)) (h : MH) (x0 : Nat) (x1 : Int32) (x2 : Int32) (x3 : Int32) (x4 : Int32) (x6 : Int32) (x7 : Int64) (x9 : Int64) (x11 : Int32) (x12 : Int64) (x14 : Int32) (x15 : Int64) (x17 : Int32) : Option (MH × Int32) := (if x6 ≤ x17 then ((gfR h x0 [12] 11).bind fun a1 => ((rdL h a1 (((8:Int32) * x1) + x14)).bind fun j2 => ((gfI h x0 [12] 2).bind fun i3 => (nzL i3.toInt64 ((chk h x0 12).bind fun _ => (bnd2 (fM_power n h x0 (lrm (x7 + (x15 * x4.toInt64)) i3.toInt64) x2) fun h4 j5 => ((gfI h4 x0 [12] 2).bind fun i6 => (nzL i6.toInt64 (k100 (h4, x0, x1, x2, x3, x4, x6, x7, x9, x11, (lrm (x12 + (j2 * j5)) i6.toInt64), (x14 + (1:Int32)))))))))))) else ((gfR h x0 [12] 10).bind fun a11 => ((rdL h a11 ((((64:Int32) * x1) + ((8:Int32) * x14)) + x17)).bind fun j12 => ((gfI h x0 [12] 2).bind fun i13 => (nzL i13.toInt64 (k113 (h, x0, x1, x2, x3, x4, x6, x7, x9, x11, x12, x14, (lrm (x15 + j12) i13.toInt64), (x17 + (1:Int32)))))))))
def fM_ride_113 (k88 : (MH × Nat × Int32 × Int32 × Int32 × Int32 × Int32 × Int64 × Int64 × Int32) → Option (MH × Int32)) (k100 : (MH × Nat × Int32 × Int32 × Int32 × Int32 × Int32 × Int64 × Int64 × Int32 × Int64 × Int32) → Option (MH × Int32)) (n : Nat) (h : MH) (x0 : Nat) (x1 : Int32) (x2 : Int32) (x3 : Int32) (x4 : Int32) (x6 : Int32) (x7 : Int64) (x9 : Int64) (x11 : Int32) (x12 : Int64) (x14 : Int32) (x15 : Int64) (x17 : Int32) : Option (MH × Int32) := lp (fun n k s => bM_ride_113 k88 k100 n k s.1 s.2.1 s.2.2.1 s.2.2.2.1 s.2.2.2.2.1 s.2.2.2.2.2.1 s.2.2.2.2.2.2.1 s.2.2.2.2.2.2.2.1 s.2.2.2.2.2.2.2.2.1 s.2.2.2.2.2.2.2.2.2.1 s.2.2.2.2.2.2.2.2.2.2.1 s.2.2.2.2.2.2.2.2.2.2.2.1 s.2.2.2.2.2.2.2.2.2.2.2.2.1 s.2.2.2.2.2.2.2.2.2.2.2.2.2) n (h, x0, x1, x2, x3, x4, x6, x7, x9, x11, x12, x14, x15, x17)
set_option maxRecDepth 20000 in
set_option maxHeartbeats 4000000 in
theorem tM_ride_113 {g : Gh} {h' : MH} {r' : Int32} {k88 : (MH × Nat × Int32 × Int32 × Int32 × Int32 × Int32 × Int64 × Int64 × Int32) → Option (MH × Int32)} {k100 : (MH × Nat × Int32 × Int32 × Int32 × Int32 × Int32 × Int64 × Int64 × Int32 × Int64 × Int32) → Option (MH × Int32)} (hk88 : ∀ (h : MH) (x0 : Nat) (x1 : Int32) (x2 : Int32) (x3 : Int32) (x4 : Int32) (x6 : Int32) (x7 : Int64) (x9 : Int64) (x11 : Int32), k88 (h, x0, x1, x2, x3, x4, x6, x7, x9, x11) = some (h', r') → V g yM_ride cM_ride 18 (some .int) rmM_ride (ZQ g rmM_ride h' (some (.int r'))) 0 0 h 88 [some (.ref x0), some (.int x1), some (.int x2), some (.int x3), some (.int x4), none, some (.int x6), some (.long x7), none, some (.long x9), none, some (.int x11), none, none, none, none, none, none] []) (hk100 : ∀ (h : MH) (x0 : Nat) (x1 : Int32) (x2 : Int32) (x3 : Int32) (x4 : Int32) (x6 : Int32) (x7 : Int64) (x9 : Int64) (x11 : Int32) (x12 : Int64) (x14 : Int32), k100 (h, x0, x1, x2, x3, x4, x6, x7, x9, x11, x12, x14) = some (h', r') → V g yM_ride cM_ride 18 (some .int) rmM_ride (ZQ g rmM_ride h' (some (.int r'))) 0 0 h 100 [some (.ref x0), some (.int x1), some (.int x2), some (.int x3), some (.int x4), none, some (.int x6), some (.long x7), none, some (.long x9), none, some (.int x11), some (.long x12), none, some (.int x14), none, none, none] []) (n : Nat) (h : MH) (x0 : Nat) (x1 : Int32) (x2 : Int32) (x3 : Int32) (x4 : Int32) (x6 : Int32) (x7 : Int64) (x9 : Int64) (x11 : Int32) (x12 : Int64) (x14 : Int32) (x15 : Int64) (x17 : Int32) (hf : fM_ride_113 k88 k100 n h x0 x1 x2 x3 x4 x6 x7 x9 x11 x12 x14 x15 x17 = some (h', r')) : V g yM_ride cM_ride 18 (some .int) rmM_ride (ZQ g rmM_ride h' (some (.int r'))) 0 0 h 113 [some (.ref x0), some (.int x1), some (.int x2), some (.int x3), some (.int x4), none, some (.int x6), some (.long x7), none, some (.long x9), none, some (.int x11), some (.long x12), none, some (.int x14), some (.long x15), none, some (.int x17)] [] := by
  unfold fM_ride_113 at hf
  refine lp_ind (P := fun s => V g yM_ride cM_ride 18 (some .int) rmM_ride (ZQ g rmM_ride h' (some (.int r'))) 0 0 s.1 113 [some (.ref s.2.1), some (.int s.2.2.1), some (.int s.2.2.2.1), some (.int s.2.2.2.2.1), some (.int s.2.2.2.2.2.1), none, some (.int s.2.2.2.2.2.2.1), some (.long s.2.2.2.2.2.2.2.1), none, some (.long s.2.2.2.2.2.2.2.2.1), none, some (.int s.2.2.2.2.2.2.2.2.2.1), some (.long s.2.2.2.2.2.2.2.2.2.2.1), none, some (.int s.2.2.2.2.2.2.2.2.2.2.2.1), some (.long s.2.2.2.2.2.2.2.2.2.2.2.2.1), none, some (.int s.2.2.2.2.2.2.2.2.2.2.2.2.2)] []) (fun n k113 hk113 s hf => ?_) n (h, x0, x1, x2, x3, x4, x6, x7, x9, x11, x12, x14, x15, x17) hf
  obtain ⟨h, x0, x1, x2, x3, x4, x6, x7, x9, x11, x12, x14, x15, x17⟩ := s
  replace hk113 : ∀ (h : MH) (x0 : Nat) (x1 : Int32) (x2 : Int32) (x3 : Int32) (x4 : Int32) (x6 : Int32) (x7 : Int64) (x9 : Int64) (x11 : Int32) (x12 : Int64) (x14 : Int32) (x15 : Int64) (x17 : Int32), k113 (h, x0, x1, x2, x3, x4, x6, x7, x9, x11, x12, x14, x15, x17) = some (h', r') → V g yM_ride cM_ride 18 (some .int) rmM_ride (ZQ g rmM_ride h' (some (.int r'))) 0 0 h 113 [some (.ref x0), some (.int x1), some (.int x2), some (.int x3), some (.int x4), none, some (.int x6), some (.long x7), none, some (.long x9), none, some (.int x11), some (.long x12), none, some (.int x14), some (.long x15), none, some (.int x17)] [] := fun h x0 x1 x2 x3 x4 x6 x7 x9 x11 x12 x14 x15 x17 => hk113 (h, x0, x1, x2, x3, x4, x6, x7, x9, x11, x12, x14, x15, x17)
  replace hf : bM_ride_113 k88 k100 n k113 h x0 x1 x2 x3 x4 x6 x7 x9 x11 x12 x14 x15 x17 = some (h', r') := hf
  change V g yM_ride cM_ride 18 (some .int) rmM_ride (ZQ g rmM_ride h' (some (.int r'))) 0 0 h 113 [some (.ref x0), some (.int x1), some (.int x2), some (.int x3), some (.int x4), none, some (.int x6), some (.long x7), none, some (.long x9), none, some (.int x11), some (.long x12), none, some (.int x14), some (.long x15), none, some (.int x17)] []
  unfold bM_ride_113 at hf
  refine v_iload (pc := 113) dM_ride_113 rfl ?_
  refine v_iload (pc := 115) dM_ride_115 rfl ?_
  refine v_icmp_ge (pc := 117) (tgt := 155) dM_ride_117 rfl hf (fun hf => ?_) (fun hf => ?_)
  rotate_left
  · refine v_lload (pc := 120) dM_ride_120 rfl ?_
    refine v_aload_n (i := 0) (pc := 122) dM_ride_122 rfl rfl ?_
    refine v_getR (pc := 123) fgM_40 dM_ride_123 hf (fun a11 hf => ?_)
    refine v_bipush (pc := 126) (64:Int32) dM_ride_126 rfl ?_
    refine v_iload_n (i := 1) (pc := 128) dM_ride_128 rfl rfl ?_
    refine v_imul (pc := 129) dM_ride_129 ?_
    refine v_bipush (pc := 130) (8:Int32) dM_ride_130 rfl ?_
    refine v_iload (pc := 132) dM_ride_132 rfl ?_
    refine v_imul (pc := 134) dM_ride_134 ?_
    refine v_iadd (pc := 135) dM_ride_135 ?_
    refine v_iload (pc := 136) dM_ride_136 rfl ?_
    refine v_iadd (pc := 138) dM_ride_138 ?_
    refine v_lald (pc := 139) dM_ride_139 hf (fun j12 hf => ?_)
    refine v_ladd (pc := 140) dM_ride_140 ?_
    refine v_aload_n (i := 0) (pc := 141) dM_ride_141 rfl rfl ?_
    refine v_getI (pc := 142) fgM_80 dM_ride_142 hf (fun i13 hf => ?_)
    refine v_i2l (pc := 145) dM_ride_145 ?_
    obtain ⟨z14, hf⟩ := nzL_of hf
    refine v_lrem (pc := 146) dM_ride_146 z14 ?_
    refine v_lstore (pc := 147) (ls' := [some (.ref x0), some (.int x1), some (.int x2), some (.int x3), some (.int x4), none, some (.int x6), some (.long x7), none, some (.long x9), none, some (.int x11), some (.long x12), none, some (.int x14), some (.long (lrm (x15 + j12) i13.toInt64)), none, some (.int x17)]) dM_ride_147 (by decide) rfl ?_
    refine v_iinc (pc := 149) (v := (x17 + (1:Int32))) (ls' := [some (.ref x0), some (.int x1), some (.int x2), some (.int x3), some (.int x4), none, some (.int x6), some (.long x7), none, some (.long x9), none, some (.int x11), some (.long x12), none, some (.int x14), some (.long (lrm (x15 + j12) i13.toInt64)), none, some (.int (x17 + (1:Int32)))]) dM_ride_149 rfl rfl (by decide) rfl ?_
    refine v_goto (pc := 152) (tgt := 113) dM_ride_152 rfl ?_
    refine v_wk (ls' := [some (.ref x0), some (.int x1), some (.int x2), some (.int x3), some (.int x4), none, some (.int x6), some (.long x7), none, some (.long x9), none, some (.int x11), some (.long x12), none, some (.int x14), some (.long (lrm (x15 + j12) i13.toInt64)), none, some (.int (x17 + (1:Int32)))]) ⟨rfl, rfl, rfl, rfl, rfl, rfl, rfl, rfl, rfl, rfl, rfl, rfl, rfl, trivial⟩ ?_
    exact hk113 h x0 x1 x2 x3 x4 x6 x7 x9 x11 x12 x14 (lrm (x15 + j12) i13.toInt64) (x17 + (1:Int32)) hf
  refine v_lload (pc := 155) dM_ride_155 rfl ?_
  refine v_aload_n (i := 0) (pc := 157) dM_ride_157 rfl rfl ?_
  refine v_getR (pc := 158) fgM_43 dM_ride_158 hf (fun a1 hf => ?_)
  refine v_bipush (pc := 161) (8:Int32) dM_ride_161 rfl ?_
  refine v_iload_n (i := 1) (pc := 163) dM_ride_163 rfl rfl ?_
  refine v_imul (pc := 164) dM_ride_164 ?_
  refine v_iload (pc := 165) dM_ride_165 rfl ?_
  refine v_iadd (pc := 167) dM_ride_167 ?_
  refine v_lald (pc := 168) dM_ride_168 hf (fun j2 hf => ?_)
  refine v_aload_n (i := 0) (pc := 169) dM_ride_169 rfl rfl ?_
  refine v_lload (pc := 170) dM_ride_170 rfl ?_
  refine v_lload (pc := 172) dM_ride_172 rfl ?_
  refine v_iload (pc := 174) dM_ride_174 rfl ?_
  refine v_i2l (pc := 176) dM_ride_176 ?_
  refine v_lmul (pc := 177) dM_ride_177 ?_
  refine v_ladd (pc := 178) dM_ride_178 ?_
  refine v_aload_n (i := 0) (pc := 179) dM_ride_179 rfl rfl ?_
  refine v_getI (pc := 180) fgM_80 dM_ride_180 hf (fun i3 hf => ?_)
  refine v_i2l (pc := 183) dM_ride_183 ?_
  obtain ⟨z10, hf⟩ := nzL_of hf
  refine v_lrem (pc := 184) dM_ride_184 z10 ?_
  refine v_iload_n (i := 2) (pc := 185) dM_ride_185 rfl rfl ?_
  obtain ⟨u9, cu9, hf⟩ := bnd hf
  obtain ⟨h4, j5, e8, hf⟩ := bndp hf
  refine v_M1 (pc := 186) (As := [.long (lrm (x7 + (x15 * x4.toInt64)) i3.toInt64), .int x2]) (rest := [.long j2, .long x12]) lmM_182 cu9 (sM_power e8) ⟨Nat.le_of_ble_eq_true rfl, Nat.le_of_ble_eq_true rfl, Nat.le_of_ble_eq_true rfl, Nat.le_of_ble_eq_true rfl⟩ dM_ride_186 rfl rfl (Nat.le_of_ble_eq_true rfl) ?_
  refine v_lmul (pc := 189) dM_ride_189 ?_
  refine v_ladd (pc := 190) dM_ride_190 ?_
  refine v_aload_n (i := 0) (pc := 191) dM_ride_191 rfl rfl ?_
  refine v_getI (pc := 192) fgM_80 dM_ride_192 hf (fun i6 hf => ?_)
  refine v_i2l (pc := 195) dM_ride_195 ?_
  obtain ⟨z7, hf⟩ := nzL_of hf
  refine v_lrem (pc := 196) dM_ride_196 z7 ?_
  refine v_lstore (pc := 197) (ls' := [some (.ref x0), some (.int x1), some (.int x2), some (.int x3), some (.int x4), none, some (.int x6), some (.long x7), none, some (.long x9), none, some (.int x11), some (.long (lrm (x12 + (j2 * j5)) i6.toInt64)), none, some (.int x14), some (.long x15), none, some (.int x17)]) dM_ride_197 (by decide) rfl ?_
  refine v_iinc (pc := 199) (v := (x14 + (1:Int32))) (ls' := [some (.ref x0), some (.int x1), some (.int x2), some (.int x3), some (.int x4), none, some (.int x6), some (.long x7), none, some (.long x9), none, some (.int x11), some (.long (lrm (x12 + (j2 * j5)) i6.toInt64)), none, some (.int (x14 + (1:Int32))), some (.long x15), none, some (.int x17)]) dM_ride_199 rfl rfl (by decide) rfl ?_
  refine v_goto (pc := 202) (tgt := 100) dM_ride_202 rfl ?_
  refine v_wk (ls' := [some (.ref x0), some (.int x1), some (.int x2), some (.int x3), some (.int x4), none, some (.int x6), some (.long x7), none, some (.long x9), none, some (.int x11), some (.long (lrm (x12 + (j2 * j5)) i6.toInt64)), none, some (.int (x14 + (1:Int32))), none, none, none]) ⟨rfl, rfl, rfl, rfl, rfl, rfl, rfl, rfl, rfl, rfl, rfl, trivial⟩ ?_
  exact hk100 h4 x0 x1 x2 x3 x4 x6 x7 x9 x11 (lrm (x12 + (j2 * j5)) i6.toInt64) (x14 + (1:Int32)) hf
def bM_ride_100 (k88 : (MH × Nat × Int32 × Int32 × Int32 × Int32 × Int32 × Int64 × Int64 × Int32) → Option (MH × Int32)) (n : Nat) (k100 : (MH × Nat × Int32 × Int32 × Int32 × Int32 × Int32 × Int64 × Int64 × Int32 × Int64 × Int32) → Option (MH × Int32)) (h : MH) (x0 : Nat) (x1 : Int32) (x2 : Int32) (x3 : Int32) (x4 : Int32) (x6 : Int32) (x7 : Int64) (x9 : Int64) (x11 : Int32) (x12 : Int64) (x14 : Int32) : Option (MH × Int32) := (if x6 ≤ x14 then ((gfI h x0 [12] 2).bind fun i1 => (nzL i1.toInt64 ((gfI h x0 [12] 2).bind fun i2 => (nzL i2.toInt64 (k88 (h, x0, x1, x2, x3, x4, x6, (lrm (x7 + x4.toInt64) i2.toInt64), (lrm (x9 + (x12 * x4.toInt64)) i1.toInt64), (x11 + (1:Int32)))))))) else (fM_ride_113 k88 k100 n h x0 x1 x2 x3 x4 x6 x7 x9 x11 x12 x14 (0:Int64) (0:Int32)))
def fM_ride_100 (k88 : (MH × Nat × Int32 × Int32 × Int32 × Int32 × Int32 × Int64 × Int64 × Int32) → Option (MH × Int32)) (n : Nat) (h : MH) (x0 : Nat) (x1 : Int32) (x2 : Int32) (x3 : Int32) (x4 : Int32) (x6 : Int32) (x7 : Int64) (x9 : Int64) (x11 : Int32) (x12 : Int64) (x14 : Int32) : Option (MH × Int32) := lp (fun n k s => bM_ride_100 k88 n k s.1 s.2.1 s.2.2.1 s.2.2.2.1 s.2.2.2.2.1 s.2.2.2.2.2.1 s.2.2.2.2.2.2.1 s.2.2.2.2.2.2.2.1 s.2.2.2.2.2.2.2.2.1 s.2.2.2.2.2.2.2.2.2.1 s.2.2.2.2.2.2.2.2.2.2.1 s.2.2.2.2.2.2.2.2.2.2.2) n (h, x0, x1, x2, x3, x4, x6, x7, x9, x11, x12, x14)
set_option maxRecDepth 20000 in
set_option maxHeartbeats 4000000 in
theorem tM_ride_100 {g : Gh} {h' : MH} {r' : Int32} {k88 : (MH × Nat × Int32 × Int32 × Int32 × Int32 × Int32 × Int64 × Int64 × Int32) → Option (MH × Int32)} (hk88 : ∀ (h : MH) (x0 : Nat) (x1 : Int32) (x2 : Int32) (x3 : Int32) (x4 : Int32) (x6 : Int32) (x7 : Int64) (x9 : Int64) (x11 : Int32), k88 (h, x0, x1, x2, x3, x4, x6, x7, x9, x11) = some (h', r') → V g yM_ride cM_ride 18 (some .int) rmM_ride (ZQ g rmM_ride h' (some (.int r'))) 0 0 h 88 [some (.ref x0), some (.int x1), some (.int x2), some (.int x3), some (.int x4), none, some (.int x6), some (.long x7), none, some (.long x9), none, some (.int x11), none, none, none, none, none, none] []) (n : Nat) (h : MH) (x0 : Nat) (x1 : Int32) (x2 : Int32) (x3 : Int32) (x4 : Int32) (x6 : Int32) (x7 : Int64) (x9 : Int64) (x11 : Int32) (x12 : Int64) (x14 : Int32) (hf : fM_ride_100 k88 n h x0 x1 x2 x3 x4 x6 x7 x9 x11 x12 x14 = some (h', r')) : V g yM_ride cM_ride 18 (some .int) rmM_ride (ZQ g rmM_ride h' (some (.int r'))) 0 0 h 100 [some (.ref x0), some (.int x1), some (.int x2), some (.int x3), some (.int x4), none, some (.int x6), some (.long x7), none, some (.long x9), none, some (.int x11), some (.long x12), none, some (.int x14), none, none, none] [] := by
  unfold fM_ride_100 at hf
  refine lp_ind (P := fun s => V g yM_ride cM_ride 18 (some .int) rmM_ride (ZQ g rmM_ride h' (some (.int r'))) 0 0 s.1 100 [some (.ref s.2.1), some (.int s.2.2.1), some (.int s.2.2.2.1), some (.int s.2.2.2.2.1), some (.int s.2.2.2.2.2.1), none, some (.int s.2.2.2.2.2.2.1), some (.long s.2.2.2.2.2.2.2.1), none, some (.long s.2.2.2.2.2.2.2.2.1), none, some (.int s.2.2.2.2.2.2.2.2.2.1), some (.long s.2.2.2.2.2.2.2.2.2.2.1), none, some (.int s.2.2.2.2.2.2.2.2.2.2.2), none, none, none] []) (fun n k100 hk100 s hf => ?_) n (h, x0, x1, x2, x3, x4, x6, x7, x9, x11, x12, x14) hf
  obtain ⟨h, x0, x1, x2, x3, x4, x6, x7, x9, x11, x12, x14⟩ := s
  replace hk100 : ∀ (h : MH) (x0 : Nat) (x1 : Int32) (x2 : Int32) (x3 : Int32) (x4 : Int32) (x6 : Int32) (x7 : Int64) (x9 : Int64) (x11 : Int32) (x12 : Int64) (x14 : Int32), k100 (h, x0, x1, x2, x3, x4, x6, x7, x9, x11, x12, x14) = some (h', r') → V g yM_ride cM_ride 18 (some .int) rmM_ride (ZQ g rmM_ride h' (some (.int r'))) 0 0 h 100 [some (.ref x0), some (.int x1), some (.int x2), some (.int x3), some (.int x4), none, some (.int x6), some (.long x7), none, some (.long x9), none, some (.int x11), some (.long x12), none, some (.int x14), none, none, none] [] := fun h x0 x1 x2 x3 x4 x6 x7 x9 x11 x12 x14 => hk100 (h, x0, x1, x2, x3, x4, x6, x7, x9, x11, x12, x14)
  replace hf : bM_ride_100 k88 n k100 h x0 x1 x2 x3 x4 x6 x7 x9 x11 x12 x14 = some (h', r') := hf
  change V g yM_ride cM_ride 18 (some .int) rmM_ride (ZQ g rmM_ride h' (some (.int r'))) 0 0 h 100 [some (.ref x0), some (.int x1), some (.int x2), some (.int x3), some (.int x4), none, some (.int x6), some (.long x7), none, some (.long x9), none, some (.int x11), some (.long x12), none, some (.int x14), none, none, none] []
  unfold bM_ride_100 at hf
  refine v_iload (pc := 100) dM_ride_100 rfl ?_
  refine v_iload (pc := 102) dM_ride_102 rfl ?_
  refine v_icmp_ge (pc := 104) (tgt := 205) dM_ride_104 rfl hf (fun hf => ?_) (fun hf => ?_)
  rotate_left
  · refine v_lconst (pc := 107) (0:Int64) dM_ride_107 rfl ?_
    refine v_lstore (pc := 108) (ls' := [some (.ref x0), some (.int x1), some (.int x2), some (.int x3), some (.int x4), none, some (.int x6), some (.long x7), none, some (.long x9), none, some (.int x11), some (.long x12), none, some (.int x14), some (.long (0:Int64)), none, none]) dM_ride_108 (by decide) rfl ?_
    refine v_iconst (pc := 110) (0:Int32) dM_ride_110 rfl ?_
    refine v_istore (pc := 111) (ls' := [some (.ref x0), some (.int x1), some (.int x2), some (.int x3), some (.int x4), none, some (.int x6), some (.long x7), none, some (.long x9), none, some (.int x11), some (.long x12), none, some (.int x14), some (.long (0:Int64)), none, some (.int (0:Int32))]) dM_ride_111 (by decide) rfl ?_
    refine v_wk (ls' := [some (.ref x0), some (.int x1), some (.int x2), some (.int x3), some (.int x4), none, some (.int x6), some (.long x7), none, some (.long x9), none, some (.int x11), some (.long x12), none, some (.int x14), some (.long (0:Int64)), none, some (.int (0:Int32))]) ⟨rfl, rfl, rfl, rfl, rfl, rfl, rfl, rfl, rfl, rfl, rfl, rfl, rfl, trivial⟩ ?_
    exact tM_ride_113 hk88 hk100 n h x0 x1 x2 x3 x4 x6 x7 x9 x11 x12 x14 (0:Int64) (0:Int32) hf
  refine v_lload (pc := 205) dM_ride_205 rfl ?_
  refine v_lload (pc := 207) dM_ride_207 rfl ?_
  refine v_iload (pc := 209) dM_ride_209 rfl ?_
  refine v_i2l (pc := 211) dM_ride_211 ?_
  refine v_lmul (pc := 212) dM_ride_212 ?_
  refine v_ladd (pc := 213) dM_ride_213 ?_
  refine v_aload_n (i := 0) (pc := 214) dM_ride_214 rfl rfl ?_
  refine v_getI (pc := 215) fgM_80 dM_ride_215 hf (fun i1 hf => ?_)
  refine v_i2l (pc := 218) dM_ride_218 ?_
  obtain ⟨z4, hf⟩ := nzL_of hf
  refine v_lrem (pc := 219) dM_ride_219 z4 ?_
  refine v_lstore (pc := 220) (ls' := [some (.ref x0), some (.int x1), some (.int x2), some (.int x3), some (.int x4), none, some (.int x6), some (.long x7), none, some (.long (lrm (x9 + (x12 * x4.toInt64)) i1.toInt64)), none, some (.int x11), some (.long x12), none, some (.int x14), none, none, none]) dM_ride_220 (by decide) rfl ?_
  refine v_lload (pc := 222) dM_ride_222 rfl ?_
  refine v_iload (pc := 224) dM_ride_224 rfl ?_
  refine v_i2l (pc := 226) dM_ride_226 ?_
  refine v_ladd (pc := 227) dM_ride_227 ?_
  refine v_aload_n (i := 0) (pc := 228) dM_ride_228 rfl rfl ?_
  refine v_getI (pc := 229) fgM_80 dM_ride_229 hf (fun i2 hf => ?_)
  refine v_i2l (pc := 232) dM_ride_232 ?_
  obtain ⟨z3, hf⟩ := nzL_of hf
  refine v_lrem (pc := 233) dM_ride_233 z3 ?_
  refine v_lstore (pc := 234) (ls' := [some (.ref x0), some (.int x1), some (.int x2), some (.int x3), some (.int x4), none, some (.int x6), some (.long (lrm (x7 + x4.toInt64) i2.toInt64)), none, some (.long (lrm (x9 + (x12 * x4.toInt64)) i1.toInt64)), none, some (.int x11), some (.long x12), none, some (.int x14), none, none, none]) dM_ride_234 (by decide) rfl ?_
  refine v_iinc (pc := 236) (v := (x11 + (1:Int32))) (ls' := [some (.ref x0), some (.int x1), some (.int x2), some (.int x3), some (.int x4), none, some (.int x6), some (.long (lrm (x7 + x4.toInt64) i2.toInt64)), none, some (.long (lrm (x9 + (x12 * x4.toInt64)) i1.toInt64)), none, some (.int (x11 + (1:Int32))), some (.long x12), none, some (.int x14), none, none, none]) dM_ride_236 rfl rfl (by decide) rfl ?_
  refine v_goto (pc := 239) (tgt := 88) dM_ride_239 rfl ?_
  refine v_wk (ls' := [some (.ref x0), some (.int x1), some (.int x2), some (.int x3), some (.int x4), none, some (.int x6), some (.long (lrm (x7 + x4.toInt64) i2.toInt64)), none, some (.long (lrm (x9 + (x12 * x4.toInt64)) i1.toInt64)), none, some (.int (x11 + (1:Int32))), none, none, none, none, none, none]) ⟨rfl, rfl, rfl, rfl, rfl, rfl, rfl, rfl, rfl, trivial⟩ ?_
  exact hk88 h x0 x1 x2 x3 x4 x6 (lrm (x7 + x4.toInt64) i2.toInt64) (lrm (x9 + (x12 * x4.toInt64)) i1.toInt64) (x11 + (1:Int32)) hf
def bM_ride_88 (n : Nat) (k88 : (MH × Nat × Int32 × Int32 × Int32 × Int32 × Int32 × Int64 × Int64 × Int32) → Option (MH × Int32)) (h : MH) (x0 : Nat) (x1 : Int32) (x2 : Int32) (x3 : Int32) (x4 : Int32) (x6 : Int32) (x7 : Int64) (x9 : Int64) (x11 : Int32) : Option (MH × Int32) := (if x3 ≤ x11 then (some (h, x9.toInt32)) else (fM_ride_100 k88 n h x0 x1 x2 x3 x4 x6 x7 x9 x11 (0:Int64) (0:Int32)))
def fM_ride_88 (n : Nat) (h : MH) (x0 : Nat) (x1 : Int32) (x2 : Int32) (x3 : Int32) (x4 : Int32) (x6 : Int32) (x7 : Int64) (x9 : Int64) (x11 : Int32) : Option (MH × Int32) := lp (fun n k s => bM_ride_88 n k s.1 s.2.1 s.2.2.1 s.2.2.2.1 s.2.2.2.2.1 s.2.2.2.2.2.1 s.2.2.2.2.2.2.1 s.2.2.2.2.2.2.2.1 s.2.2.2.2.2.2.2.2.1 s.2.2.2.2.2.2.2.2.2) n (h, x0, x1, x2, x3, x4, x6, x7, x9, x11)
set_option maxRecDepth 20000 in
set_option maxHeartbeats 4000000 in
theorem tM_ride_88 {g : Gh} {h' : MH} {r' : Int32} (n : Nat) (h : MH) (x0 : Nat) (x1 : Int32) (x2 : Int32) (x3 : Int32) (x4 : Int32) (x6 : Int32) (x7 : Int64) (x9 : Int64) (x11 : Int32) (hf : fM_ride_88 n h x0 x1 x2 x3 x4 x6 x7 x9 x11 = some (h', r')) : V g yM_ride cM_ride 18 (some .int) rmM_ride (ZQ g rmM_ride h' (some (.int r'))) 0 0 h 88 [some (.ref x0), some (.int x1), some (.int x2), some (.int x3), some (.int x4), none, some (.int x6), some (.long x7), none, some (.long x9), none, some (.int x11), none, none, none, none, none, none] [] := by
  unfold fM_ride_88 at hf
  refine lp_ind (P := fun s => V g yM_ride cM_ride 18 (some .int) rmM_ride (ZQ g rmM_ride h' (some (.int r'))) 0 0 s.1 88 [some (.ref s.2.1), some (.int s.2.2.1), some (.int s.2.2.2.1), some (.int s.2.2.2.2.1), some (.int s.2.2.2.2.2.1), none, some (.int s.2.2.2.2.2.2.1), some (.long s.2.2.2.2.2.2.2.1), none, some (.long s.2.2.2.2.2.2.2.2.1), none, some (.int s.2.2.2.2.2.2.2.2.2), none, none, none, none, none, none] []) (fun n k88 hk88 s hf => ?_) n (h, x0, x1, x2, x3, x4, x6, x7, x9, x11) hf
  obtain ⟨h, x0, x1, x2, x3, x4, x6, x7, x9, x11⟩ := s
  replace hk88 : ∀ (h : MH) (x0 : Nat) (x1 : Int32) (x2 : Int32) (x3 : Int32) (x4 : Int32) (x6 : Int32) (x7 : Int64) (x9 : Int64) (x11 : Int32), k88 (h, x0, x1, x2, x3, x4, x6, x7, x9, x11) = some (h', r') → V g yM_ride cM_ride 18 (some .int) rmM_ride (ZQ g rmM_ride h' (some (.int r'))) 0 0 h 88 [some (.ref x0), some (.int x1), some (.int x2), some (.int x3), some (.int x4), none, some (.int x6), some (.long x7), none, some (.long x9), none, some (.int x11), none, none, none, none, none, none] [] := fun h x0 x1 x2 x3 x4 x6 x7 x9 x11 => hk88 (h, x0, x1, x2, x3, x4, x6, x7, x9, x11)
  replace hf : bM_ride_88 n k88 h x0 x1 x2 x3 x4 x6 x7 x9 x11 = some (h', r') := hf
  change V g yM_ride cM_ride 18 (some .int) rmM_ride (ZQ g rmM_ride h' (some (.int r'))) 0 0 h 88 [some (.ref x0), some (.int x1), some (.int x2), some (.int x3), some (.int x4), none, some (.int x6), some (.long x7), none, some (.long x9), none, some (.int x11), none, none, none, none, none, none] []
  unfold bM_ride_88 at hf
  refine v_iload (pc := 88) dM_ride_88 rfl ?_
  refine v_iload_n (i := 3) (pc := 90) dM_ride_90 rfl rfl ?_
  refine v_icmp_ge (pc := 91) (tgt := 242) dM_ride_91 rfl hf (fun hf => ?_) (fun hf => ?_)
  · refine v_lload (pc := 242) dM_ride_242 rfl ?_
    refine v_l2i (pc := 244) dM_ride_244 ?_
    exact v_iret (pc := 245) dM_ride_245 (by decide) (by decide) hf
  refine v_lconst (pc := 94) (0:Int64) dM_ride_94 rfl ?_
  refine v_lstore (pc := 95) (ls' := [some (.ref x0), some (.int x1), some (.int x2), some (.int x3), some (.int x4), none, some (.int x6), some (.long x7), none, some (.long x9), none, some (.int x11), some (.long (0:Int64)), none, none, none, none, none]) dM_ride_95 (by decide) rfl ?_
  refine v_iconst (pc := 97) (0:Int32) dM_ride_97 rfl ?_
  refine v_istore (pc := 98) (ls' := [some (.ref x0), some (.int x1), some (.int x2), some (.int x3), some (.int x4), none, some (.int x6), some (.long x7), none, some (.long x9), none, some (.int x11), some (.long (0:Int64)), none, some (.int (0:Int32)), none, none, none]) dM_ride_98 (by decide) rfl ?_
  refine v_wk (ls' := [some (.ref x0), some (.int x1), some (.int x2), some (.int x3), some (.int x4), none, some (.int x6), some (.long x7), none, some (.long x9), none, some (.int x11), some (.long (0:Int64)), none, some (.int (0:Int32)), none, none, none]) ⟨rfl, rfl, rfl, rfl, rfl, rfl, rfl, rfl, rfl, rfl, rfl, trivial⟩ ?_
  exact tM_ride_100 hk88 n h x0 x1 x2 x3 x4 x6 x7 x9 x11 (0:Int64) (0:Int32) hf
def fM_ride (n : Nat) (h : MH) (a_0 : Nat) (i_1 : Int32) (i_2 : Int32) (i_3 : Int32) (i_4 : Int32) : Option (MH × Int32) := ((pf h a_0 [12] 0 (.int (0:Int32))).bind fun h1 => (bnd2 (fM_isPlace h1 i_1) fun h2 i3 => (if i3 = (0:Int32) then (some (h2, (-1000001:Int32))) else (bnd2 (fM_in h2 i_2.toInt64 (0:Int64) (9:Int64)) fun h4 i5 => (if i5 = (0:Int32) then (some (h4, (-1000001:Int32))) else (bnd2 (fM_in h4 i_3.toInt64 (0:Int64) (1000:Int64)) fun h6 i7 => (if i7 = (0:Int32) then (some (h6, (-1000001:Int32))) else ((gfI h6 a_0 [12] 2).bind fun i8 => (bnd2 (fM_in h6 i_4.toInt64 (0:Int64) (i8 - (1:Int32)).toInt64) fun h9 i10 => (if i10 = (0:Int32) then (some (h9, (-1000001:Int32))) else ((chk h9 a_0 12).bind fun _ => (bnd2 (fM_look h9 a_0 i_1) fun h11 i12 => (if (0:Int32) ≤ i12 then ((gfR h11 a_0 [12] 9).bind fun a13 => ((rdI h11 a13 i_1).bind fun i14 => (fM_ride_88 n h11 a_0 i_1 i_2 i_3 i_4 i14 (0:Int64) (0:Int64) (0:Int32)))) else (some (h11, i12)))))))))))))))
set_option maxRecDepth 20000 in
set_option maxHeartbeats 4000000 in
theorem sM_ride {g : Gh} {h' : MH} {r' : Int32} {n : Nat} {h : MH} {a_0 : Nat} {i_1 : Int32} {i_2 : Int32} {i_3 : Int32} {i_4 : Int32} (hf : fM_ride n h a_0 i_1 i_2 i_3 i_4 = some (h', r')) : Sp g yM_ride cM_ride 18 (some .int) rmM_ride h [.ref a_0, .int i_1, .int i_2, .int i_3, .int i_4] h' (some (.int r')) := by
  refine sp_of (by decide) (Nat.le_of_ble_eq_true rfl) ?_
  change V g yM_ride cM_ride 18 (some .int) rmM_ride (ZQ g rmM_ride h' (some (.int r'))) 0 0 h 0 [some (.ref a_0), some (.int i_1), some (.int i_2), some (.int i_3), some (.int i_4), none, none, none, none, none, none, none, none, none, none, none, none, none] []
  unfold fM_ride at hf
  refine v_aload_n (i := 0) (pc := 0) dM_ride_0 rfl rfl ?_
  refine v_iconst (pc := 1) (0:Int32) dM_ride_1 rfl ?_
  refine v_put (pc := 2) fpM_1 (fun _ => ⟨rfl, rfl⟩) dM_ride_2 hf (fun h1 hf => ?_)
  refine v_iload_n (i := 1) (pc := 5) dM_ride_5 rfl rfl ?_
  obtain ⟨h2, i3, e20, hf⟩ := bndp hf
  refine v_S1 (pc := 6) (As := [.int i_1]) (rest := []) lsM_129 (sM_isPlace e20) ⟨Nat.le_of_ble_eq_true rfl, Nat.le_of_ble_eq_true rfl, Nat.le_of_ble_eq_true rfl, Nat.le_of_ble_eq_true rfl⟩ dM_ride_6 rfl rfl (Nat.le_of_ble_eq_true rfl) ?_
  refine v_if_eq (pc := 9) (tgt := 53) dM_ride_9 rfl hf (fun hf => ?_) (fun hf => ?_)
  · refine v_ldc (pc := 53) dM_ride_53 kiM_90 ?_
    exact v_iret (pc := 55) dM_ride_55 (by decide) (by decide) hf
  refine v_iload_n (i := 2) (pc := 12) dM_ride_12 rfl rfl ?_
  refine v_i2l (pc := 13) dM_ride_13 ?_
  refine v_lconst (pc := 14) (0:Int64) dM_ride_14 rfl ?_
  refine v_ldc2 (pc := 15) dM_ride_15 klM_124 ?_
  obtain ⟨h4, i5, e19, hf⟩ := bndp hf
  refine v_S1 (pc := 18) (As := [.long i_2.toInt64, .long (0:Int64), .long (9:Int64)]) (rest := []) lsM_71 (sM_in e19) ⟨Nat.le_of_ble_eq_true rfl, Nat.le_of_ble_eq_true rfl, Nat.le_of_ble_eq_true rfl, Nat.le_of_ble_eq_true rfl⟩ dM_ride_18 rfl rfl (Nat.le_of_ble_eq_true rfl) ?_
  refine v_if_eq (pc := 21) (tgt := 53) dM_ride_21 rfl hf (fun hf => ?_) (fun hf => ?_)
  · refine v_ldc (pc := 53) dM_ride_53 kiM_90 ?_
    exact v_iret (pc := 55) dM_ride_55 (by decide) (by decide) hf
  refine v_iload_n (i := 3) (pc := 24) dM_ride_24 rfl rfl ?_
  refine v_i2l (pc := 25) dM_ride_25 ?_
  refine v_lconst (pc := 26) (0:Int64) dM_ride_26 rfl ?_
  refine v_ldc2 (pc := 27) dM_ride_27 klM_180 ?_
  obtain ⟨h6, i7, e18, hf⟩ := bndp hf
  refine v_S1 (pc := 30) (As := [.long i_3.toInt64, .long (0:Int64), .long (1000:Int64)]) (rest := []) lsM_71 (sM_in e18) ⟨Nat.le_of_ble_eq_true rfl, Nat.le_of_ble_eq_true rfl, Nat.le_of_ble_eq_true rfl, Nat.le_of_ble_eq_true rfl⟩ dM_ride_30 rfl rfl (Nat.le_of_ble_eq_true rfl) ?_
  refine v_if_eq (pc := 33) (tgt := 53) dM_ride_33 rfl hf (fun hf => ?_) (fun hf => ?_)
  · refine v_ldc (pc := 53) dM_ride_53 kiM_90 ?_
    exact v_iret (pc := 55) dM_ride_55 (by decide) (by decide) hf
  refine v_iload (pc := 36) dM_ride_36 rfl ?_
  refine v_i2l (pc := 38) dM_ride_38 ?_
  refine v_lconst (pc := 39) (0:Int64) dM_ride_39 rfl ?_
  refine v_aload_n (i := 0) (pc := 40) dM_ride_40 rfl rfl ?_
  refine v_getI (pc := 41) fgM_80 dM_ride_41 hf (fun i8 hf => ?_)
  refine v_iconst (pc := 44) (1:Int32) dM_ride_44 rfl ?_
  refine v_isub (pc := 45) dM_ride_45 ?_
  refine v_i2l (pc := 46) dM_ride_46 ?_
  obtain ⟨h9, i10, e17, hf⟩ := bndp hf
  refine v_S1 (pc := 47) (As := [.long i_4.toInt64, .long (0:Int64), .long (i8 - (1:Int32)).toInt64]) (rest := []) lsM_71 (sM_in e17) ⟨Nat.le_of_ble_eq_true rfl, Nat.le_of_ble_eq_true rfl, Nat.le_of_ble_eq_true rfl, Nat.le_of_ble_eq_true rfl⟩ dM_ride_47 rfl rfl (Nat.le_of_ble_eq_true rfl) ?_
  refine v_if_ne (pc := 50) (tgt := 56) dM_ride_50 rfl hf (fun hf => ?_) (fun hf => ?_)
  · refine v_ldc (pc := 53) dM_ride_53 kiM_90 ?_
    exact v_iret (pc := 55) dM_ride_55 (by decide) (by decide) hf
  refine v_aload_n (i := 0) (pc := 56) dM_ride_56 rfl rfl ?_
  refine v_iload_n (i := 1) (pc := 57) dM_ride_57 rfl rfl ?_
  obtain ⟨u16, cu16, hf⟩ := bnd hf
  obtain ⟨h11, i12, e15, hf⟩ := bndp hf
  refine v_M1 (pc := 58) (As := [.int i_1]) (rest := []) lmM_149 cu16 (sM_look e15) ⟨Nat.le_of_ble_eq_true rfl, Nat.le_of_ble_eq_true rfl, Nat.le_of_ble_eq_true rfl, Nat.le_of_ble_eq_true rfl⟩ dM_ride_58 rfl rfl (Nat.le_of_ble_eq_true rfl) ?_
  refine v_istore (pc := 61) (ls' := [some (.ref a_0), some (.int i_1), some (.int i_2), some (.int i_3), some (.int i_4), some (.int i12), none, none, none, none, none, none, none, none, none, none, none, none]) dM_ride_61 (by decide) rfl ?_
  refine v_iload (pc := 63) dM_ride_63 rfl ?_
  refine v_if_ge (pc := 65) (tgt := 71) dM_ride_65 rfl hf (fun hf => ?_) (fun hf => ?_)
  rotate_left
  · refine v_iload (pc := 68) dM_ride_68 rfl ?_
    exact v_iret (pc := 70) dM_ride_70 (by decide) (by decide) hf
  refine v_aload_n (i := 0) (pc := 71) dM_ride_71 rfl rfl ?_
  refine v_getR (pc := 72) fgM_37 dM_ride_72 hf (fun a13 hf => ?_)
  refine v_iload_n (i := 1) (pc := 75) dM_ride_75 rfl rfl ?_
  refine v_iald (pc := 76) dM_ride_76 hf (fun i14 hf => ?_)
  refine v_istore (pc := 77) (ls' := [some (.ref a_0), some (.int i_1), some (.int i_2), some (.int i_3), some (.int i_4), some (.int i12), some (.int i14), none, none, none, none, none, none, none, none, none, none, none]) dM_ride_77 (by decide) rfl ?_
  refine v_lconst (pc := 79) (0:Int64) dM_ride_79 rfl ?_
  refine v_lstore (pc := 80) (ls' := [some (.ref a_0), some (.int i_1), some (.int i_2), some (.int i_3), some (.int i_4), some (.int i12), some (.int i14), some (.long (0:Int64)), none, none, none, none, none, none, none, none, none, none]) dM_ride_80 (by decide) rfl ?_
  refine v_lconst (pc := 82) (0:Int64) dM_ride_82 rfl ?_
  refine v_lstore (pc := 83) (ls' := [some (.ref a_0), some (.int i_1), some (.int i_2), some (.int i_3), some (.int i_4), some (.int i12), some (.int i14), some (.long (0:Int64)), none, some (.long (0:Int64)), none, none, none, none, none, none, none, none]) dM_ride_83 (by decide) rfl ?_
  refine v_iconst (pc := 85) (0:Int32) dM_ride_85 rfl ?_
  refine v_istore (pc := 86) (ls' := [some (.ref a_0), some (.int i_1), some (.int i_2), some (.int i_3), some (.int i_4), some (.int i12), some (.int i14), some (.long (0:Int64)), none, some (.long (0:Int64)), none, some (.int (0:Int32)), none, none, none, none, none, none]) dM_ride_86 (by decide) rfl ?_
  refine v_wk (ls' := [some (.ref a_0), some (.int i_1), some (.int i_2), some (.int i_3), some (.int i_4), none, some (.int i14), some (.long (0:Int64)), none, some (.long (0:Int64)), none, some (.int (0:Int32)), none, none, none, none, none, none]) ⟨rfl, rfl, rfl, rfl, rfl, rfl, rfl, rfl, rfl, trivial⟩ ?_
  exact tM_ride_88 n h11 a_0 i_1 i_2 i_3 i_4 i14 (0:Int64) (0:Int64) (0:Int32) hf
abbrev rmM_alike : Room := { frames := 2, cells := 0, slots := 0, locals := 45 }
def fM_alike_57 (n : Nat) (h : MH) (x0 : Nat) : Option (MH × Int32) := ((chk h x0 12).bind fun _ => (bnd2 (fM_found h x0 (1:Int32)) fun h1 i2 => (some (h1, i2))))
set_option maxRecDepth 20000 in
set_option maxHeartbeats 4000000 in
theorem tM_alike_57 {g : Gh} {h' : MH} {r' : Int32} (n : Nat) (h : MH) (x0 : Nat) (hf : fM_alike_57 n h x0 = some (h', r')) : V g yM_alike cM_alike 6 (some .int) rmM_alike (ZQ g rmM_alike h' (some (.int r'))) 0 0 h 57 [some (.ref x0), none, none, none, none, none] [] := by
  unfold fM_alike_57 at hf
  refine v_aload_n (i := 0) (pc := 57) dM_alike_57 rfl rfl ?_
  refine v_iconst (pc := 58) (1:Int32) dM_alike_58 rfl ?_
  obtain ⟨u4, cu4, hf⟩ := bnd hf
  obtain ⟨h1, i2, e3, hf⟩ := bndp hf
  refine v_M1 (pc := 59) (As := [.int (1:Int32)]) (rest := []) lmM_119 cu4 (sM_found e3) ⟨Nat.le_of_ble_eq_true rfl, Nat.le_of_ble_eq_true rfl, Nat.le_of_ble_eq_true rfl, Nat.le_of_ble_eq_true rfl⟩ dM_alike_59 rfl rfl (Nat.le_of_ble_eq_true rfl) ?_
  exact v_iret (pc := 62) dM_alike_62 (by decide) (by decide) hf
def fM_alike_115 (k69 : (MH × Nat × Int32 × Int32 × Int32 × Int32 × Int32) → Option (MH × Int32)) (n : Nat) (h : MH) (s0 : Int32) (x0 : Nat) (x1 : Int32) (x2 : Int32) (x3 : Int32) (x5 : Int32) : Option (MH × Int32) := (k69 (h, x0, x1, x2, x3, s0, (x5 + (1:Int32))))
set_option maxRecDepth 20000 in
set_option maxHeartbeats 4000000 in
theorem tM_alike_115 {g : Gh} {h' : MH} {r' : Int32} {k69 : (MH × Nat × Int32 × Int32 × Int32 × Int32 × Int32) → Option (MH × Int32)} (hk69 : ∀ (h : MH) (x0 : Nat) (x1 : Int32) (x2 : Int32) (x3 : Int32) (x4 : Int32) (x5 : Int32), k69 (h, x0, x1, x2, x3, x4, x5) = some (h', r') → V g yM_alike cM_alike 6 (some .int) rmM_alike (ZQ g rmM_alike h' (some (.int r'))) 0 0 h 69 [some (.ref x0), some (.int x1), some (.int x2), some (.int x3), some (.int x4), some (.int x5)] []) (n : Nat) (h : MH) (s0 : Int32) (x0 : Nat) (x1 : Int32) (x2 : Int32) (x3 : Int32) (x5 : Int32) (hf : fM_alike_115 k69 n h s0 x0 x1 x2 x3 x5 = some (h', r')) : V g yM_alike cM_alike 6 (some .int) rmM_alike (ZQ g rmM_alike h' (some (.int r'))) 0 0 h 115 [some (.ref x0), some (.int x1), some (.int x2), some (.int x3), none, some (.int x5)] [.int s0] := by
  unfold fM_alike_115 at hf
  refine v_istore (pc := 115) (ls' := [some (.ref x0), some (.int x1), some (.int x2), some (.int x3), some (.int s0), some (.int x5)]) dM_alike_115 (by decide) rfl ?_
  refine v_iinc (pc := 117) (v := (x5 + (1:Int32))) (ls' := [some (.ref x0), some (.int x1), some (.int x2), some (.int x3), some (.int s0), some (.int (x5 + (1:Int32)))]) dM_alike_117 rfl rfl (by decide) rfl ?_
  refine v_goto (pc := 120) (tgt := 69) dM_alike_120 rfl ?_
  refine v_wk (ls' := [some (.ref x0), some (.int x1), some (.int x2), some (.int x3), some (.int s0), some (.int (x5 + (1:Int32)))]) ⟨rfl, rfl, rfl, rfl, rfl, rfl, trivial⟩ ?_
  exact hk69 h x0 x1 x2 x3 s0 (x5 + (1:Int32)) hf
def fM_alike_110 (k69 : (MH × Nat × Int32 × Int32 × Int32 × Int32 × Int32) → Option (MH × Int32)) (n : Nat) (h : MH) (x0 : Nat) (x1 : Int32) (x2 : Int32) (x3 : Int32) (x5 : Int32) : Option (MH × Int32) := (fM_alike_115 k69 n h (1:Int32) x0 x1 x2 x3 x5)
set_option maxRecDepth 20000 in
set_option maxHeartbeats 4000000 in
theorem tM_alike_110 {g : Gh} {h' : MH} {r' : Int32} {k69 : (MH × Nat × Int32 × Int32 × Int32 × Int32 × Int32) → Option (MH × Int32)} (hk69 : ∀ (h : MH) (x0 : Nat) (x1 : Int32) (x2 : Int32) (x3 : Int32) (x4 : Int32) (x5 : Int32), k69 (h, x0, x1, x2, x3, x4, x5) = some (h', r') → V g yM_alike cM_alike 6 (some .int) rmM_alike (ZQ g rmM_alike h' (some (.int r'))) 0 0 h 69 [some (.ref x0), some (.int x1), some (.int x2), some (.int x3), some (.int x4), some (.int x5)] []) (n : Nat) (h : MH) (x0 : Nat) (x1 : Int32) (x2 : Int32) (x3 : Int32) (x5 : Int32) (hf : fM_alike_110 k69 n h x0 x1 x2 x3 x5 = some (h', r')) : V g yM_alike cM_alike 6 (some .int) rmM_alike (ZQ g rmM_alike h' (some (.int r'))) 0 0 h 110 [some (.ref x0), some (.int x1), some (.int x2), some (.int x3), none, some (.int x5)] [] := by
  unfold fM_alike_110 at hf
  refine v_iconst (pc := 110) (1:Int32) dM_alike_110 rfl ?_
  refine v_goto (pc := 111) (tgt := 115) dM_alike_111 rfl ?_
  refine v_wk (ls' := [some (.ref x0), some (.int x1), some (.int x2), some (.int x3), none, some (.int x5)]) ⟨rfl, rfl, rfl, rfl, rfl, trivial⟩ ?_
  exact tM_alike_115 hk69 n h (1:Int32) x0 x1 x2 x3 x5 hf
def fM_alike_114 (k69 : (MH × Nat × Int32 × Int32 × Int32 × Int32 × Int32) → Option (MH × Int32)) (n : Nat) (h : MH) (x0 : Nat) (x1 : Int32) (x2 : Int32) (x3 : Int32) (x5 : Int32) : Option (MH × Int32) := (fM_alike_115 k69 n h (0:Int32) x0 x1 x2 x3 x5)
set_option maxRecDepth 20000 in
set_option maxHeartbeats 4000000 in
theorem tM_alike_114 {g : Gh} {h' : MH} {r' : Int32} {k69 : (MH × Nat × Int32 × Int32 × Int32 × Int32 × Int32) → Option (MH × Int32)} (hk69 : ∀ (h : MH) (x0 : Nat) (x1 : Int32) (x2 : Int32) (x3 : Int32) (x4 : Int32) (x5 : Int32), k69 (h, x0, x1, x2, x3, x4, x5) = some (h', r') → V g yM_alike cM_alike 6 (some .int) rmM_alike (ZQ g rmM_alike h' (some (.int r'))) 0 0 h 69 [some (.ref x0), some (.int x1), some (.int x2), some (.int x3), some (.int x4), some (.int x5)] []) (n : Nat) (h : MH) (x0 : Nat) (x1 : Int32) (x2 : Int32) (x3 : Int32) (x5 : Int32) (hf : fM_alike_114 k69 n h x0 x1 x2 x3 x5 = some (h', r')) : V g yM_alike cM_alike 6 (some .int) rmM_alike (ZQ g rmM_alike h' (some (.int r'))) 0 0 h 114 [some (.ref x0), some (.int x1), some (.int x2), some (.int x3), none, some (.int x5)] [] := by
  unfold fM_alike_114 at hf
  refine v_iconst (pc := 114) (0:Int32) dM_alike_114 rfl ?_
  refine v_wk (ls' := [some (.ref x0), some (.int x1), some (.int x2), some (.int x3), none, some (.int x5)]) ⟨rfl, rfl, rfl, rfl, rfl, trivial⟩ ?_
  exact tM_alike_115 hk69 n h (0:Int32) x0 x1 x2 x3 x5 hf
def bM_alike_69 (n : Nat) (k69 : (MH × Nat × Int32 × Int32 × Int32 × Int32 × Int32) → Option (MH × Int32)) (h : MH) (x0 : Nat) (x1 : Int32) (x2 : Int32) (x3 : Int32) (x4 : Int32) (x5 : Int32) : Option (MH × Int32) := (if (37:Int32) ≤ x5 then (if x4 = (0:Int32) then (some (h, (0:Int32))) else (some (h, (1:Int32)))) else (if x4 = (0:Int32) then (fM_alike_114 k69 n h x0 x1 x2 x3 x5) else ((gfR h x0 [12] 3).bind fun a1 => ((rdI h a1 x5).bind fun i2 => (if x3 < i2 then (fM_alike_110 k69 n h x0 x1 x2 x3 x5) else ((chk h x0 12).bind fun _ => (bnd2 (fM_weightOf n h x0 x1 x5) fun h3 j4 => ((chk h3 x0 12).bind fun _ => (bnd2 (fM_weightOf n h3 x0 x2 x5) fun h5 j6 => (if j4 = j6 then (fM_alike_110 k69 n h5 x0 x1 x2 x3 x5) else (fM_alike_114 k69 n h5 x0 x1 x2 x3 x5)))))))))))
def fM_alike_69 (n : Nat) (h : MH) (x0 : Nat) (x1 : Int32) (x2 : Int32) (x3 : Int32) (x4 : Int32) (x5 : Int32) : Option (MH × Int32) := lp (fun n k s => bM_alike_69 n k s.1 s.2.1 s.2.2.1 s.2.2.2.1 s.2.2.2.2.1 s.2.2.2.2.2.1 s.2.2.2.2.2.2) n (h, x0, x1, x2, x3, x4, x5)
set_option maxRecDepth 20000 in
set_option maxHeartbeats 4000000 in
theorem tM_alike_69 {g : Gh} {h' : MH} {r' : Int32} (n : Nat) (h : MH) (x0 : Nat) (x1 : Int32) (x2 : Int32) (x3 : Int32) (x4 : Int32) (x5 : Int32) (hf : fM_alike_69 n h x0 x1 x2 x3 x4 x5 = some (h', r')) : V g yM_alike cM_alike 6 (some .int) rmM_alike (ZQ g rmM_alike h' (some (.int r'))) 0 0 h 69 [some (.ref x0), some (.int x1), some (.int x2), some (.int x3), some (.int x4), some (.int x5)] [] := by
  unfold fM_alike_69 at hf
  refine lp_ind (P := fun s => V g yM_alike cM_alike 6 (some .int) rmM_alike (ZQ g rmM_alike h' (some (.int r'))) 0 0 s.1 69 [some (.ref s.2.1), some (.int s.2.2.1), some (.int s.2.2.2.1), some (.int s.2.2.2.2.1), some (.int s.2.2.2.2.2.1), some (.int s.2.2.2.2.2.2)] []) (fun n k69 hk69 s hf => ?_) n (h, x0, x1, x2, x3, x4, x5) hf
  obtain ⟨h, x0, x1, x2, x3, x4, x5⟩ := s
  replace hk69 : ∀ (h : MH) (x0 : Nat) (x1 : Int32) (x2 : Int32) (x3 : Int32) (x4 : Int32) (x5 : Int32), k69 (h, x0, x1, x2, x3, x4, x5) = some (h', r') → V g yM_alike cM_alike 6 (some .int) rmM_alike (ZQ g rmM_alike h' (some (.int r'))) 0 0 h 69 [some (.ref x0), some (.int x1), some (.int x2), some (.int x3), some (.int x4), some (.int x5)] [] := fun h x0 x1 x2 x3 x4 x5 => hk69 (h, x0, x1, x2, x3, x4, x5)
  replace hf : bM_alike_69 n k69 h x0 x1 x2 x3 x4 x5 = some (h', r') := hf
  change V g yM_alike cM_alike 6 (some .int) rmM_alike (ZQ g rmM_alike h' (some (.int r'))) 0 0 h 69 [some (.ref x0), some (.int x1), some (.int x2), some (.int x3), some (.int x4), some (.int x5)] []
  unfold bM_alike_69 at hf
  refine v_iload (pc := 69) dM_alike_69 rfl ?_
  refine v_bipush (pc := 71) (37:Int32) dM_alike_71 rfl ?_
  refine v_icmp_ge (pc := 73) (tgt := 123) dM_alike_73 rfl hf (fun hf => ?_) (fun hf => ?_)
  · refine v_iload (pc := 123) dM_alike_123 rfl ?_
    refine v_if_eq (pc := 125) (tgt := 132) dM_alike_125 rfl hf (fun hf => ?_) (fun hf => ?_)
    · refine v_iconst (pc := 132) (0:Int32) dM_alike_132 rfl ?_
      exact v_iret (pc := 133) dM_alike_133 (by decide) (by decide) hf
    refine v_iconst (pc := 128) (1:Int32) dM_alike_128 rfl ?_
    refine v_goto (pc := 129) (tgt := 133) dM_alike_129 rfl ?_
    exact v_iret (pc := 133) dM_alike_133 (by decide) (by decide) hf
  refine v_iload (pc := 76) dM_alike_76 rfl ?_
  refine v_if_eq (pc := 78) (tgt := 114) dM_alike_78 rfl hf (fun hf => ?_) (fun hf => ?_)
  · refine v_wk (ls' := [some (.ref x0), some (.int x1), some (.int x2), some (.int x3), none, some (.int x5)]) ⟨rfl, rfl, rfl, rfl, rfl, trivial⟩ ?_
    exact tM_alike_114 hk69 n h x0 x1 x2 x3 x5 hf
  refine v_aload_n (i := 0) (pc := 81) dM_alike_81 rfl rfl ?_
  refine v_getR (pc := 82) fgM_17 dM_alike_82 hf (fun a1 hf => ?_)
  refine v_iload (pc := 85) dM_alike_85 rfl ?_
  refine v_iald (pc := 87) dM_alike_87 hf (fun i2 hf => ?_)
  refine v_iload_n (i := 3) (pc := 88) dM_alike_88 rfl rfl ?_
  refine v_icmp_gt (pc := 89) (tgt := 110) dM_alike_89 rfl hf (fun hf => ?_) (fun hf => ?_)
  · refine v_wk (ls' := [some (.ref x0), some (.int x1), some (.int x2), some (.int x3), none, some (.int x5)]) ⟨rfl, rfl, rfl, rfl, rfl, trivial⟩ ?_
    exact tM_alike_110 hk69 n h x0 x1 x2 x3 x5 hf
  refine v_aload_n (i := 0) (pc := 92) dM_alike_92 rfl rfl ?_
  refine v_iload_n (i := 1) (pc := 93) dM_alike_93 rfl rfl ?_
  refine v_iload (pc := 94) dM_alike_94 rfl ?_
  obtain ⟨u10, cu10, hf⟩ := bnd hf
  obtain ⟨h3, j4, e9, hf⟩ := bndp hf
  refine v_M1 (pc := 96) (As := [.int x1, .int x5]) (rest := []) lmM_168 cu10 (sM_weightOf e9) ⟨Nat.le_of_ble_eq_true rfl, Nat.le_of_ble_eq_true rfl, Nat.le_of_ble_eq_true rfl, Nat.le_of_ble_eq_true rfl⟩ dM_alike_96 rfl rfl (Nat.le_of_ble_eq_true rfl) ?_
  refine v_aload_n (i := 0) (pc := 99) dM_alike_99 rfl rfl ?_
  refine v_iload_n (i := 2) (pc := 100) dM_alike_100 rfl rfl ?_
  refine v_iload (pc := 101) dM_alike_101 rfl ?_
  obtain ⟨u8, cu8, hf⟩ := bnd hf
  obtain ⟨h5, j6, e7, hf⟩ := bndp hf
  refine v_M1 (pc := 103) (As := [.int x2, .int x5]) (rest := [.long j4]) lmM_168 cu8 (sM_weightOf e7) ⟨Nat.le_of_ble_eq_true rfl, Nat.le_of_ble_eq_true rfl, Nat.le_of_ble_eq_true rfl, Nat.le_of_ble_eq_true rfl⟩ dM_alike_103 rfl rfl (Nat.le_of_ble_eq_true rfl) ?_
  refine v_lcmp_ne (pc := 106) (tgt := 114) dM_alike_106 dM_alike_107 rfl hf (fun hf => ?_) (fun hf => ?_)
  · refine v_wk (ls' := [some (.ref x0), some (.int x1), some (.int x2), some (.int x3), none, some (.int x5)]) ⟨rfl, rfl, rfl, rfl, rfl, trivial⟩ ?_
    exact tM_alike_110 hk69 n h5 x0 x1 x2 x3 x5 hf
  refine v_wk (ls' := [some (.ref x0), some (.int x1), some (.int x2), some (.int x3), none, some (.int x5)]) ⟨rfl, rfl, rfl, rfl, rfl, trivial⟩ ?_
  exact tM_alike_114 hk69 n h5 x0 x1 x2 x3 x5 hf
def fM_alike (n : Nat) (h : MH) (a_0 : Nat) (i_1 : Int32) (i_2 : Int32) (i_3 : Int32) : Option (MH × Int32) := ((pf h a_0 [12] 0 (.int (0:Int32))).bind fun h1 => (bnd2 (fM_isPlace h1 i_1) fun h2 i3 => (if i3 = (0:Int32) then (some (h2, (-1000001:Int32))) else (bnd2 (fM_isPlace h2 i_2) fun h4 i5 => (if i5 = (0:Int32) then (some (h4, (-1000001:Int32))) else (bnd2 (fM_in h4 i_3.toInt64 (1:Int64) (6:Int64)) fun h6 i7 => (if i7 = (0:Int32) then (some (h6, (-1000001:Int32))) else ((pf h6 a_0 [12] 1 (.int (0:Int32))).bind fun h8 => ((gfR h8 a_0 [12] 9).bind fun a9 => ((rdI h8 a9 i_1).bind fun i10 => (if i10 = (0:Int32) then (fM_alike_57 n h8 a_0) else ((gfR h8 a_0 [12] 9).bind fun a11 => ((rdI h8 a11 i_2).bind fun i12 => (if i12 = (0:Int32) then (fM_alike_57 n h8 a_0) else (fM_alike_69 n h8 a_0 i_1 i_2 i_3 (1:Int32) (0:Int32))))))))))))))))
set_option maxRecDepth 20000 in
set_option maxHeartbeats 4000000 in
theorem sM_alike {g : Gh} {h' : MH} {r' : Int32} {n : Nat} {h : MH} {a_0 : Nat} {i_1 : Int32} {i_2 : Int32} {i_3 : Int32} (hf : fM_alike n h a_0 i_1 i_2 i_3 = some (h', r')) : Sp g yM_alike cM_alike 6 (some .int) rmM_alike h [.ref a_0, .int i_1, .int i_2, .int i_3] h' (some (.int r')) := by
  refine sp_of (by decide) (Nat.le_of_ble_eq_true rfl) ?_
  change V g yM_alike cM_alike 6 (some .int) rmM_alike (ZQ g rmM_alike h' (some (.int r'))) 0 0 h 0 [some (.ref a_0), some (.int i_1), some (.int i_2), some (.int i_3), none, none] []
  unfold fM_alike at hf
  refine v_aload_n (i := 0) (pc := 0) dM_alike_0 rfl rfl ?_
  refine v_iconst (pc := 1) (0:Int32) dM_alike_1 rfl ?_
  refine v_put (pc := 2) fpM_1 (fun _ => ⟨rfl, rfl⟩) dM_alike_2 hf (fun h1 hf => ?_)
  refine v_iload_n (i := 1) (pc := 5) dM_alike_5 rfl rfl ?_
  obtain ⟨h2, i3, e15, hf⟩ := bndp hf
  refine v_S1 (pc := 6) (As := [.int i_1]) (rest := []) lsM_129 (sM_isPlace e15) ⟨Nat.le_of_ble_eq_true rfl, Nat.le_of_ble_eq_true rfl, Nat.le_of_ble_eq_true rfl, Nat.le_of_ble_eq_true rfl⟩ dM_alike_6 rfl rfl (Nat.le_of_ble_eq_true rfl) ?_
  refine v_if_eq (pc := 9) (tgt := 31) dM_alike_9 rfl hf (fun hf => ?_) (fun hf => ?_)
  · refine v_ldc (pc := 31) dM_alike_31 kiM_90 ?_
    exact v_iret (pc := 33) dM_alike_33 (by decide) (by decide) hf
  refine v_iload_n (i := 2) (pc := 12) dM_alike_12 rfl rfl ?_
  obtain ⟨h4, i5, e14, hf⟩ := bndp hf
  refine v_S1 (pc := 13) (As := [.int i_2]) (rest := []) lsM_129 (sM_isPlace e14) ⟨Nat.le_of_ble_eq_true rfl, Nat.le_of_ble_eq_true rfl, Nat.le_of_ble_eq_true rfl, Nat.le_of_ble_eq_true rfl⟩ dM_alike_13 rfl rfl (Nat.le_of_ble_eq_true rfl) ?_
  refine v_if_eq (pc := 16) (tgt := 31) dM_alike_16 rfl hf (fun hf => ?_) (fun hf => ?_)
  · refine v_ldc (pc := 31) dM_alike_31 kiM_90 ?_
    exact v_iret (pc := 33) dM_alike_33 (by decide) (by decide) hf
  refine v_iload_n (i := 3) (pc := 19) dM_alike_19 rfl rfl ?_
  refine v_i2l (pc := 20) dM_alike_20 ?_
  refine v_lconst (pc := 21) (1:Int64) dM_alike_21 rfl ?_
  refine v_ldc2 (pc := 22) dM_alike_22 klM_88 ?_
  obtain ⟨h6, i7, e13, hf⟩ := bndp hf
  refine v_S1 (pc := 25) (As := [.long i_3.toInt64, .long (1:Int64), .long (6:Int64)]) (rest := []) lsM_71 (sM_in e13) ⟨Nat.le_of_ble_eq_true rfl, Nat.le_of_ble_eq_true rfl, Nat.le_of_ble_eq_true rfl, Nat.le_of_ble_eq_true rfl⟩ dM_alike_25 rfl rfl (Nat.le_of_ble_eq_true rfl) ?_
  refine v_if_ne (pc := 28) (tgt := 34) dM_alike_28 rfl hf (fun hf => ?_) (fun hf => ?_)
  · refine v_ldc (pc := 31) dM_alike_31 kiM_90 ?_
    exact v_iret (pc := 33) dM_alike_33 (by decide) (by decide) hf
  refine v_aload_n (i := 0) (pc := 34) dM_alike_34 rfl rfl ?_
  refine v_iconst (pc := 35) (0:Int32) dM_alike_35 rfl ?_
  refine v_put (pc := 36) fpM_7 (fun _ => ⟨rfl, rfl⟩) dM_alike_36 hf (fun h8 hf => ?_)
  refine v_aload_n (i := 0) (pc := 39) dM_alike_39 rfl rfl ?_
  refine v_getR (pc := 40) fgM_37 dM_alike_40 hf (fun a9 hf => ?_)
  refine v_iload_n (i := 1) (pc := 43) dM_alike_43 rfl rfl ?_
  refine v_iald (pc := 44) dM_alike_44 hf (fun i10 hf => ?_)
  refine v_if_eq (pc := 45) (tgt := 57) dM_alike_45 rfl hf (fun hf => ?_) (fun hf => ?_)
  · refine v_wk (ls' := [some (.ref a_0), none, none, none, none, none]) ⟨rfl, trivial⟩ ?_
    exact tM_alike_57 n h8 a_0 hf
  refine v_aload_n (i := 0) (pc := 48) dM_alike_48 rfl rfl ?_
  refine v_getR (pc := 49) fgM_37 dM_alike_49 hf (fun a11 hf => ?_)
  refine v_iload_n (i := 2) (pc := 52) dM_alike_52 rfl rfl ?_
  refine v_iald (pc := 53) dM_alike_53 hf (fun i12 hf => ?_)
  refine v_if_ne (pc := 54) (tgt := 63) dM_alike_54 rfl hf (fun hf => ?_) (fun hf => ?_)
  · refine v_wk (ls' := [some (.ref a_0), none, none, none, none, none]) ⟨rfl, trivial⟩ ?_
    exact tM_alike_57 n h8 a_0 hf
  refine v_iconst (pc := 63) (1:Int32) dM_alike_63 rfl ?_
  refine v_istore (pc := 64) (ls' := [some (.ref a_0), some (.int i_1), some (.int i_2), some (.int i_3), some (.int (1:Int32)), none]) dM_alike_64 (by decide) rfl ?_
  refine v_iconst (pc := 66) (0:Int32) dM_alike_66 rfl ?_
  refine v_istore (pc := 67) (ls' := [some (.ref a_0), some (.int i_1), some (.int i_2), some (.int i_3), some (.int (1:Int32)), some (.int (0:Int32))]) dM_alike_67 (by decide) rfl ?_
  refine v_wk (ls' := [some (.ref a_0), some (.int i_1), some (.int i_2), some (.int i_3), some (.int (1:Int32)), some (.int (0:Int32))]) ⟨rfl, rfl, rfl, rfl, rfl, rfl, trivial⟩ ?_
  exact tM_alike_69 n h8 a_0 i_1 i_2 i_3 (1:Int32) (0:Int32) hf
abbrev rmM_count : Room := { frames := 1, cells := 0, slots := 0, locals := 31 }
def fM_count_71 (k50 : (MH × Nat × Int32 × Int32) → Option (MH × Int32)) (n : Nat) (h : MH) (s0 : Int32) (s1 : Int32) (x0 : Nat) (x3 : Int32) : Option (MH × Int32) := (k50 (h, x0, (s1 + s0), (x3 + (1:Int32))))
set_option maxRecDepth 20000 in
set_option maxHeartbeats 4000000 in
theorem tM_count_71 {g : Gh} {h' : MH} {r' : Int32} {k50 : (MH × Nat × Int32 × Int32) → Option (MH × Int32)} (hk50 : ∀ (h : MH) (x0 : Nat) (x2 : Int32) (x3 : Int32), k50 (h, x0, x2, x3) = some (h', r') → V g yM_count cM_count 4 (some .int) rmM_count (ZQ g rmM_count h' (some (.int r'))) 0 0 h 50 [some (.ref x0), none, some (.int x2), some (.int x3)] []) (n : Nat) (h : MH) (s0 : Int32) (s1 : Int32) (x0 : Nat) (x3 : Int32) (hf : fM_count_71 k50 n h s0 s1 x0 x3 = some (h', r')) : V g yM_count cM_count 4 (some .int) rmM_count (ZQ g rmM_count h' (some (.int r'))) 0 0 h 71 [some (.ref x0), none, none, some (.int x3)] [.int s0, .int s1] := by
  unfold fM_count_71 at hf
  refine v_iadd (pc := 71) dM_count_71 ?_
  refine v_istore_n (i := 2) (pc := 72) (ls' := [some (.ref x0), none, some (.int (s1 + s0)), some (.int x3)]) dM_count_72 rfl (by decide) rfl ?_
  refine v_iinc (pc := 73) (v := (x3 + (1:Int32))) (ls' := [some (.ref x0), none, some (.int (s1 + s0)), some (.int (x3 + (1:Int32)))]) dM_count_73 rfl rfl (by decide) rfl ?_
  refine v_goto (pc := 76) (tgt := 50) dM_count_76 rfl ?_
  refine v_wk (ls' := [some (.ref x0), none, some (.int (s1 + s0)), some (.int (x3 + (1:Int32)))]) ⟨rfl, rfl, rfl, trivial⟩ ?_
  exact hk50 h x0 (s1 + s0) (x3 + (1:Int32)) hf
def bM_count_50 (n : Nat) (k50 : (MH × Nat × Int32 × Int32) → Option (MH × Int32)) (h : MH) (x0 : Nat) (x2 : Int32) (x3 : Int32) : Option (MH × Int32) := (if (8:Int32) ≤ x3 then (some (h, x2)) else ((gfR h x0 [12] 6).bind fun a1 => ((rdI h a1 x3).bind fun i2 => (if i2 < (0:Int32) then (fM_count_71 k50 n h (0:Int32) x2 x0 x3) else (fM_count_71 k50 n h (1:Int32) x2 x0 x3)))))
def fM_count_50 (n : Nat) (h : MH) (x0 : Nat) (x2 : Int32) (x3 : Int32) : Option (MH × Int32) := lp (fun n k s => bM_count_50 n k s.1 s.2.1 s.2.2.1 s.2.2.2) n (h, x0, x2, x3)
set_option maxRecDepth 20000 in
set_option maxHeartbeats 4000000 in
theorem tM_count_50 {g : Gh} {h' : MH} {r' : Int32} (n : Nat) (h : MH) (x0 : Nat) (x2 : Int32) (x3 : Int32) (hf : fM_count_50 n h x0 x2 x3 = some (h', r')) : V g yM_count cM_count 4 (some .int) rmM_count (ZQ g rmM_count h' (some (.int r'))) 0 0 h 50 [some (.ref x0), none, some (.int x2), some (.int x3)] [] := by
  unfold fM_count_50 at hf
  refine lp_ind (P := fun s => V g yM_count cM_count 4 (some .int) rmM_count (ZQ g rmM_count h' (some (.int r'))) 0 0 s.1 50 [some (.ref s.2.1), none, some (.int s.2.2.1), some (.int s.2.2.2)] []) (fun n k50 hk50 s hf => ?_) n (h, x0, x2, x3) hf
  obtain ⟨h, x0, x2, x3⟩ := s
  replace hk50 : ∀ (h : MH) (x0 : Nat) (x2 : Int32) (x3 : Int32), k50 (h, x0, x2, x3) = some (h', r') → V g yM_count cM_count 4 (some .int) rmM_count (ZQ g rmM_count h' (some (.int r'))) 0 0 h 50 [some (.ref x0), none, some (.int x2), some (.int x3)] [] := fun h x0 x2 x3 => hk50 (h, x0, x2, x3)
  replace hf : bM_count_50 n k50 h x0 x2 x3 = some (h', r') := hf
  change V g yM_count cM_count 4 (some .int) rmM_count (ZQ g rmM_count h' (some (.int r'))) 0 0 h 50 [some (.ref x0), none, some (.int x2), some (.int x3)] []
  unfold bM_count_50 at hf
  refine v_iload_n (i := 3) (pc := 50) dM_count_50 rfl rfl ?_
  refine v_bipush (pc := 51) (8:Int32) dM_count_51 rfl ?_
  refine v_icmp_ge (pc := 53) (tgt := 79) dM_count_53 rfl hf (fun hf => ?_) (fun hf => ?_)
  · refine v_iload_n (i := 2) (pc := 79) dM_count_79 rfl rfl ?_
    exact v_iret (pc := 80) dM_count_80 (by decide) (by decide) hf
  refine v_iload_n (i := 2) (pc := 56) dM_count_56 rfl rfl ?_
  refine v_aload_n (i := 0) (pc := 57) dM_count_57 rfl rfl ?_
  refine v_getR (pc := 58) fgM_27 dM_count_58 hf (fun a1 hf => ?_)
  refine v_iload_n (i := 3) (pc := 61) dM_count_61 rfl rfl ?_
  refine v_iald (pc := 62) dM_count_62 hf (fun i2 hf => ?_)
  refine v_if_lt (pc := 63) (tgt := 70) dM_count_63 rfl hf (fun hf => ?_) (fun hf => ?_)
  · refine v_iconst (pc := 70) (0:Int32) dM_count_70 rfl ?_
    refine v_wk (ls' := [some (.ref x0), none, none, some (.int x3)]) ⟨rfl, rfl, trivial⟩ ?_
    exact tM_count_71 hk50 n h (0:Int32) x2 x0 x3 hf
  refine v_iconst (pc := 66) (1:Int32) dM_count_66 rfl ?_
  refine v_goto (pc := 67) (tgt := 71) dM_count_67 rfl ?_
  refine v_wk (ls' := [some (.ref x0), none, none, some (.int x3)]) ⟨rfl, rfl, trivial⟩ ?_
  exact tM_count_71 hk50 n h (1:Int32) x2 x0 x3 hf
def fM_count_118 (k83 : (MH × Nat × Int32 × Int32 × Int32) → Option (MH × Int32)) (n : Nat) (h : MH) (s0 : Int32) (s1 : Int32) (x0 : Nat) (x1 : Int32) (x3 : Int32) : Option (MH × Int32) := (k83 (h, x0, x1, (s1 + s0), (x3 + (1:Int32))))
set_option maxRecDepth 20000 in
set_option maxHeartbeats 4000000 in
theorem tM_count_118 {g : Gh} {h' : MH} {r' : Int32} {k83 : (MH × Nat × Int32 × Int32 × Int32) → Option (MH × Int32)} (hk83 : ∀ (h : MH) (x0 : Nat) (x1 : Int32) (x2 : Int32) (x3 : Int32), k83 (h, x0, x1, x2, x3) = some (h', r') → V g yM_count cM_count 4 (some .int) rmM_count (ZQ g rmM_count h' (some (.int r'))) 0 0 h 83 [some (.ref x0), some (.int x1), some (.int x2), some (.int x3)] []) (n : Nat) (h : MH) (s0 : Int32) (s1 : Int32) (x0 : Nat) (x1 : Int32) (x3 : Int32) (hf : fM_count_118 k83 n h s0 s1 x0 x1 x3 = some (h', r')) : V g yM_count cM_count 4 (some .int) rmM_count (ZQ g rmM_count h' (some (.int r'))) 0 0 h 118 [some (.ref x0), some (.int x1), none, some (.int x3)] [.int s0, .int s1] := by
  unfold fM_count_118 at hf
  refine v_iadd (pc := 118) dM_count_118 ?_
  refine v_istore_n (i := 2) (pc := 119) (ls' := [some (.ref x0), some (.int x1), some (.int (s1 + s0)), some (.int x3)]) dM_count_119 rfl (by decide) rfl ?_
  refine v_iinc (pc := 120) (v := (x3 + (1:Int32))) (ls' := [some (.ref x0), some (.int x1), some (.int (s1 + s0)), some (.int (x3 + (1:Int32)))]) dM_count_120 rfl rfl (by decide) rfl ?_
  refine v_goto (pc := 123) (tgt := 83) dM_count_123 rfl ?_
  refine v_wk (ls' := [some (.ref x0), some (.int x1), some (.int (s1 + s0)), some (.int (x3 + (1:Int32)))]) ⟨rfl, rfl, rfl, rfl, trivial⟩ ?_
  exact hk83 h x0 x1 (s1 + s0) (x3 + (1:Int32)) hf
def fM_count_117 (k83 : (MH × Nat × Int32 × Int32 × Int32) → Option (MH × Int32)) (n : Nat) (h : MH) (s0 : Int32) (x0 : Nat) (x1 : Int32) (x3 : Int32) : Option (MH × Int32) := (fM_count_118 k83 n h (0:Int32) s0 x0 x1 x3)
set_option maxRecDepth 20000 in
set_option maxHeartbeats 4000000 in
theorem tM_count_117 {g : Gh} {h' : MH} {r' : Int32} {k83 : (MH × Nat × Int32 × Int32 × Int32) → Option (MH × Int32)} (hk83 : ∀ (h : MH) (x0 : Nat) (x1 : Int32) (x2 : Int32) (x3 : Int32), k83 (h, x0, x1, x2, x3) = some (h', r') → V g yM_count cM_count 4 (some .int) rmM_count (ZQ g rmM_count h' (some (.int r'))) 0 0 h 83 [some (.ref x0), some (.int x1), some (.int x2), some (.int x3)] []) (n : Nat) (h : MH) (s0 : Int32) (x0 : Nat) (x1 : Int32) (x3 : Int32) (hf : fM_count_117 k83 n h s0 x0 x1 x3 = some (h', r')) : V g yM_count cM_count 4 (some .int) rmM_count (ZQ g rmM_count h' (some (.int r'))) 0 0 h 117 [some (.ref x0), some (.int x1), none, some (.int x3)] [.int s0] := by
  unfold fM_count_117 at hf
  refine v_iconst (pc := 117) (0:Int32) dM_count_117 rfl ?_
  refine v_wk (ls' := [some (.ref x0), some (.int x1), none, some (.int x3)]) ⟨rfl, rfl, rfl, trivial⟩ ?_
  exact tM_count_118 hk83 n h (0:Int32) s0 x0 x1 x3 hf
def bM_count_83 (n : Nat) (k83 : (MH × Nat × Int32 × Int32 × Int32) → Option (MH × Int32)) (h : MH) (x0 : Nat) (x1 : Int32) (x2 : Int32) (x3 : Int32) : Option (MH × Int32) := (if (10:Int32) ≤ x3 then (some (h, x2)) else ((gfR h x0 [12] 9).bind fun a1 => ((rdI h a1 x3).bind fun i2 => (if i2 ≤ (0:Int32) then (fM_count_117 k83 n h x2 x0 x1 x3) else ((chk h x0 12).bind fun _ => (bnd2 (fM_kindOf n h x0 x3) fun h3 i4 => (bnd2 (fM_isOf n h3 i4 (x1 - (1:Int32))) fun h5 i6 => (if i6 = (0:Int32) then (fM_count_117 k83 n h5 x2 x0 x1 x3) else (fM_count_118 k83 n h5 (1:Int32) x2 x0 x1 x3)))))))))
def fM_count_83 (n : Nat) (h : MH) (x0 : Nat) (x1 : Int32) (x2 : Int32) (x3 : Int32) : Option (MH × Int32) := lp (fun n k s => bM_count_83 n k s.1 s.2.1 s.2.2.1 s.2.2.2.1 s.2.2.2.2) n (h, x0, x1, x2, x3)
set_option maxRecDepth 20000 in
set_option maxHeartbeats 4000000 in
theorem tM_count_83 {g : Gh} {h' : MH} {r' : Int32} (n : Nat) (h : MH) (x0 : Nat) (x1 : Int32) (x2 : Int32) (x3 : Int32) (hf : fM_count_83 n h x0 x1 x2 x3 = some (h', r')) : V g yM_count cM_count 4 (some .int) rmM_count (ZQ g rmM_count h' (some (.int r'))) 0 0 h 83 [some (.ref x0), some (.int x1), some (.int x2), some (.int x3)] [] := by
  unfold fM_count_83 at hf
  refine lp_ind (P := fun s => V g yM_count cM_count 4 (some .int) rmM_count (ZQ g rmM_count h' (some (.int r'))) 0 0 s.1 83 [some (.ref s.2.1), some (.int s.2.2.1), some (.int s.2.2.2.1), some (.int s.2.2.2.2)] []) (fun n k83 hk83 s hf => ?_) n (h, x0, x1, x2, x3) hf
  obtain ⟨h, x0, x1, x2, x3⟩ := s
  replace hk83 : ∀ (h : MH) (x0 : Nat) (x1 : Int32) (x2 : Int32) (x3 : Int32), k83 (h, x0, x1, x2, x3) = some (h', r') → V g yM_count cM_count 4 (some .int) rmM_count (ZQ g rmM_count h' (some (.int r'))) 0 0 h 83 [some (.ref x0), some (.int x1), some (.int x2), some (.int x3)] [] := fun h x0 x1 x2 x3 => hk83 (h, x0, x1, x2, x3)
  replace hf : bM_count_83 n k83 h x0 x1 x2 x3 = some (h', r') := hf
  change V g yM_count cM_count 4 (some .int) rmM_count (ZQ g rmM_count h' (some (.int r'))) 0 0 h 83 [some (.ref x0), some (.int x1), some (.int x2), some (.int x3)] []
  unfold bM_count_83 at hf
  refine v_iload_n (i := 3) (pc := 83) dM_count_83 rfl rfl ?_
  refine v_bipush (pc := 84) (10:Int32) dM_count_84 rfl ?_
  refine v_icmp_ge (pc := 86) (tgt := 126) dM_count_86 rfl hf (fun hf => ?_) (fun hf => ?_)
  · refine v_iload_n (i := 2) (pc := 126) dM_count_126 rfl rfl ?_
    exact v_iret (pc := 127) dM_count_127 (by decide) (by decide) hf
  refine v_iload_n (i := 2) (pc := 89) dM_count_89 rfl rfl ?_
  refine v_aload_n (i := 0) (pc := 90) dM_count_90 rfl rfl ?_
  refine v_getR (pc := 91) fgM_37 dM_count_91 hf (fun a1 hf => ?_)
  refine v_iload_n (i := 3) (pc := 94) dM_count_94 rfl rfl ?_
  refine v_iald (pc := 95) dM_count_95 hf (fun i2 hf => ?_)
  refine v_if_le (pc := 96) (tgt := 117) dM_count_96 rfl hf (fun hf => ?_) (fun hf => ?_)
  · refine v_wk (ls' := [some (.ref x0), some (.int x1), none, some (.int x3)]) ⟨rfl, rfl, rfl, trivial⟩ ?_
    exact tM_count_117 hk83 n h x2 x0 x1 x3 hf
  refine v_aload_n (i := 0) (pc := 99) dM_count_99 rfl rfl ?_
  refine v_iload_n (i := 3) (pc := 100) dM_count_100 rfl rfl ?_
  obtain ⟨u9, cu9, hf⟩ := bnd hf
  obtain ⟨h3, i4, e8, hf⟩ := bndp hf
  refine v_M1 (pc := 101) (As := [.int x3]) (rest := [.int x2]) lmM_126 cu9 (sM_kindOf e8) ⟨Nat.le_of_ble_eq_true rfl, Nat.le_of_ble_eq_true rfl, Nat.le_of_ble_eq_true rfl, Nat.le_of_ble_eq_true rfl⟩ dM_count_101 rfl rfl (Nat.le_of_ble_eq_true rfl) ?_
  refine v_iload_n (i := 1) (pc := 104) dM_count_104 rfl rfl ?_
  refine v_iconst (pc := 105) (1:Int32) dM_count_105 rfl ?_
  refine v_isub (pc := 106) dM_count_106 ?_
  obtain ⟨h5, i6, e7, hf⟩ := bndp hf
  refine v_S1 (pc := 107) (As := [.int i4, .int (x1 - (1:Int32))]) (rest := [.int x2]) lsM_152 (sM_isOf e7) ⟨Nat.le_of_ble_eq_true rfl, Nat.le_of_ble_eq_true rfl, Nat.le_of_ble_eq_true rfl, Nat.le_of_ble_eq_true rfl⟩ dM_count_107 rfl rfl (Nat.le_of_ble_eq_true rfl) ?_
  refine v_if_eq (pc := 110) (tgt := 117) dM_count_110 rfl hf (fun hf => ?_) (fun hf => ?_)
  · refine v_wk (ls' := [some (.ref x0), some (.int x1), none, some (.int x3)]) ⟨rfl, rfl, rfl, trivial⟩ ?_
    exact tM_count_117 hk83 n h5 x2 x0 x1 x3 hf
  refine v_iconst (pc := 113) (1:Int32) dM_count_113 rfl ?_
  refine v_goto (pc := 114) (tgt := 118) dM_count_114 rfl ?_
  refine v_wk (ls' := [some (.ref x0), some (.int x1), none, some (.int x3)]) ⟨rfl, rfl, rfl, trivial⟩ ?_
  exact tM_count_118 hk83 n h5 (1:Int32) x2 x0 x1 x3 hf
def fM_count (n : Nat) (h : MH) (a_0 : Nat) (i_1 : Int32) : Option (MH × Int32) := ((pf h a_0 [12] 0 (.int (0:Int32))).bind fun h1 => (if i_1 = (0:Int32) then (fM_count_50 n h1 a_0 (0:Int32) (0:Int32)) else (if i_1 = (1:Int32) then (fM_count_83 n h1 a_0 i_1 (0:Int32) (0:Int32)) else (if i_1 = (2:Int32) then (fM_count_83 n h1 a_0 i_1 (0:Int32) (0:Int32)) else (if i_1 = (3:Int32) then (fM_count_83 n h1 a_0 i_1 (0:Int32) (0:Int32)) else (if i_1 = (4:Int32) then (fM_count_83 n h1 a_0 i_1 (0:Int32) (0:Int32)) else (if i_1 = (5:Int32) then ((gfI h1 a_0 [12] 2).bind fun i2 => (some (h1, i2))) else (some (h1, (-1000001:Int32))))))))))
set_option maxRecDepth 20000 in
set_option maxHeartbeats 4000000 in
theorem sM_count {g : Gh} {h' : MH} {r' : Int32} {n : Nat} {h : MH} {a_0 : Nat} {i_1 : Int32} (hf : fM_count n h a_0 i_1 = some (h', r')) : Sp g yM_count cM_count 4 (some .int) rmM_count h [.ref a_0, .int i_1] h' (some (.int r')) := by
  refine sp_of (by decide) (Nat.le_of_ble_eq_true rfl) ?_
  change V g yM_count cM_count 4 (some .int) rmM_count (ZQ g rmM_count h' (some (.int r'))) 0 0 h 0 [some (.ref a_0), some (.int i_1), none, none] []
  unfold fM_count at hf
  refine v_aload_n (i := 0) (pc := 0) dM_count_0 rfl rfl ?_
  refine v_iconst (pc := 1) (0:Int32) dM_count_1 rfl ?_
  refine v_put (pc := 2) fpM_1 (fun _ => ⟨rfl, rfl⟩) dM_count_2 hf (fun h1 hf => ?_)
  refine v_iconst (pc := 5) (0:Int32) dM_count_5 rfl ?_
  refine v_istore_n (i := 2) (pc := 6) (ls' := [some (.ref a_0), some (.int i_1), some (.int (0:Int32)), none]) dM_count_6 rfl (by decide) rfl ?_
  refine v_iload_n (i := 1) (pc := 7) dM_count_7 rfl rfl ?_
  by_cases e3 : i_1 = (0:Int32)
  · replace hf := if_t hf e3
    refine v_tswI (pc := 8) (tgt := 48) (off := 40) dM_count_8 (by rw [e3]; decide) (by rw [e3]; decide) (by rw [e3]; decide) rfl ?_
    refine v_iconst (pc := 48) (0:Int32) dM_count_48 rfl ?_
    refine v_istore_n (i := 3) (pc := 49) (ls' := [some (.ref a_0), some (.int i_1), some (.int (0:Int32)), some (.int (0:Int32))]) dM_count_49 rfl (by decide) rfl ?_
    refine v_wk (ls' := [some (.ref a_0), none, some (.int (0:Int32)), some (.int (0:Int32))]) ⟨rfl, rfl, rfl, trivial⟩ ?_
    exact tM_count_50 n h1 a_0 (0:Int32) (0:Int32) hf
  replace hf := if_f hf e3
  by_cases e4 : i_1 = (1:Int32)
  · replace hf := if_t hf e4
    refine v_tswI (pc := 8) (tgt := 81) (off := 73) dM_count_8 (by rw [e4]; decide) (by rw [e4]; decide) (by rw [e4]; decide) rfl ?_
    refine v_iconst (pc := 81) (0:Int32) dM_count_81 rfl ?_
    refine v_istore_n (i := 3) (pc := 82) (ls' := [some (.ref a_0), some (.int i_1), some (.int (0:Int32)), some (.int (0:Int32))]) dM_count_82 rfl (by decide) rfl ?_
    refine v_wk (ls' := [some (.ref a_0), some (.int i_1), some (.int (0:Int32)), some (.int (0:Int32))]) ⟨rfl, rfl, rfl, rfl, trivial⟩ ?_
    exact tM_count_83 n h1 a_0 i_1 (0:Int32) (0:Int32) hf
  replace hf := if_f hf e4
  by_cases e5 : i_1 = (2:Int32)
  · replace hf := if_t hf e5
    refine v_tswI (pc := 8) (tgt := 81) (off := 73) dM_count_8 (by rw [e5]; decide) (by rw [e5]; decide) (by rw [e5]; decide) rfl ?_
    refine v_iconst (pc := 81) (0:Int32) dM_count_81 rfl ?_
    refine v_istore_n (i := 3) (pc := 82) (ls' := [some (.ref a_0), some (.int i_1), some (.int (0:Int32)), some (.int (0:Int32))]) dM_count_82 rfl (by decide) rfl ?_
    refine v_wk (ls' := [some (.ref a_0), some (.int i_1), some (.int (0:Int32)), some (.int (0:Int32))]) ⟨rfl, rfl, rfl, rfl, trivial⟩ ?_
    exact tM_count_83 n h1 a_0 i_1 (0:Int32) (0:Int32) hf
  replace hf := if_f hf e5
  by_cases e6 : i_1 = (3:Int32)
  · replace hf := if_t hf e6
    refine v_tswI (pc := 8) (tgt := 81) (off := 73) dM_count_8 (by rw [e6]; decide) (by rw [e6]; decide) (by rw [e6]; decide) rfl ?_
    refine v_iconst (pc := 81) (0:Int32) dM_count_81 rfl ?_
    refine v_istore_n (i := 3) (pc := 82) (ls' := [some (.ref a_0), some (.int i_1), some (.int (0:Int32)), some (.int (0:Int32))]) dM_count_82 rfl (by decide) rfl ?_
    refine v_wk (ls' := [some (.ref a_0), some (.int i_1), some (.int (0:Int32)), some (.int (0:Int32))]) ⟨rfl, rfl, rfl, rfl, trivial⟩ ?_
    exact tM_count_83 n h1 a_0 i_1 (0:Int32) (0:Int32) hf
  replace hf := if_f hf e6
  by_cases e7 : i_1 = (4:Int32)
  · replace hf := if_t hf e7
    refine v_tswI (pc := 8) (tgt := 81) (off := 73) dM_count_8 (by rw [e7]; decide) (by rw [e7]; decide) (by rw [e7]; decide) rfl ?_
    refine v_iconst (pc := 81) (0:Int32) dM_count_81 rfl ?_
    refine v_istore_n (i := 3) (pc := 82) (ls' := [some (.ref a_0), some (.int i_1), some (.int (0:Int32)), some (.int (0:Int32))]) dM_count_82 rfl (by decide) rfl ?_
    refine v_wk (ls' := [some (.ref a_0), some (.int i_1), some (.int (0:Int32)), some (.int (0:Int32))]) ⟨rfl, rfl, rfl, rfl, trivial⟩ ?_
    exact tM_count_83 n h1 a_0 i_1 (0:Int32) (0:Int32) hf
  replace hf := if_f hf e7
  by_cases e8 : i_1 = (5:Int32)
  · replace hf := if_t hf e8
    refine v_tswI (pc := 8) (tgt := 128) (off := 120) dM_count_8 (by rw [e8]; decide) (by rw [e8]; decide) (by rw [e8]; decide) rfl ?_
    refine v_aload_n (i := 0) (pc := 128) dM_count_128 rfl rfl ?_
    refine v_getI (pc := 129) fgM_80 dM_count_129 hf (fun i2 hf => ?_)
    exact v_iret (pc := 132) dM_count_132 (by decide) (by decide) hf
  replace hf := if_f hf e8
  refine v_tswO (pc := 8) (tgt := 133) dM_count_8 (by have := lv_neT e3 (a := 0) (by decide); have := lv_neT e4 (a := 1) (by decide); have := lv_neT e5 (a := 2) (by decide); have := lv_neT e6 (a := 3) (by decide); have := lv_neT e7 (a := 4) (by decide); have := lv_neT e8 (a := 5) (by decide); omega) rfl ?_
  refine v_ldc (pc := 133) dM_count_133 kiM_90 ?_
  exact v_iret (pc := 135) dM_count_135 (by decide) (by decide) hf
abbrev rmM_status : Room := { frames := 0, cells := 0, slots := 0, locals := 0 }
def fM_status (h : MH) (a_0 : Nat) : Option (MH × Int32) := ((pf h a_0 [12] 0 (.int (0:Int32))).bind fun h1 => ((gfI h1 a_0 [12] 1).bind fun i2 => (some (h1, i2))))
set_option maxRecDepth 20000 in
set_option maxHeartbeats 4000000 in
theorem sM_status {g : Gh} {h' : MH} {r' : Int32} {h : MH} {a_0 : Nat} (hf : fM_status h a_0 = some (h', r')) : Sp g yM_status cM_status 1 (some .int) rmM_status h [.ref a_0] h' (some (.int r')) := by
  refine sp_of (by decide) (Nat.le_of_ble_eq_true rfl) ?_
  change V g yM_status cM_status 1 (some .int) rmM_status (ZQ g rmM_status h' (some (.int r'))) 0 0 h 0 [some (.ref a_0)] []
  unfold fM_status at hf
  refine v_aload_n (i := 0) (pc := 0) dM_status_0 rfl rfl ?_
  refine v_iconst (pc := 1) (0:Int32) dM_status_1 rfl ?_
  refine v_put (pc := 2) fpM_1 (fun _ => ⟨rfl, rfl⟩) dM_status_2 hf (fun h1 hf => ?_)
  refine v_aload_n (i := 0) (pc := 5) dM_status_5 rfl rfl ?_
  refine v_getI (pc := 6) fgM_7 dM_status_6 hf (fun i2 hf => ?_)
  exact v_iret (pc := 9) dM_status_9 (by decide) (by decide) hf
abbrev rmL_cell : Room := { frames := 0, cells := 0, slots := 0, locals := 0 }
def fL_cell (X : List Int32) (h : MH) (i_1 : Int32) : Option (MH × Int32) := (if (Int32.ofNat X.length) ≤ i_1 then (some (h, (0:Int32))) else ((rdS X i_1).bind fun i1 => (some (h, i1))))
set_option maxRecDepth 20000 in
set_option maxHeartbeats 4000000 in
theorem sL_cell {g : Gh} {h' : MH} {r' : Int32} {X : List Int32} (hX : gX g = X) {h : MH} {i_1 : Int32} (hf : fL_cell X h i_1 = some (h', r')) : Sp g yL_cell cL_cell 2 (some .int) rmL_cell h [.ref 0, .int i_1] h' (some (.int r')) := by
  refine sp_of (by decide) (Nat.le_of_ble_eq_true rfl) ?_
  change V g yL_cell cL_cell 2 (some .int) rmL_cell (ZQ g rmL_cell h' (some (.int r'))) 0 0 h 0 [some (.ref 0), some (.int i_1)] []
  unfold fL_cell at hf
  refine v_iload_n (i := 1) (pc := 0) dL_cell_0 rfl rfl ?_
  refine v_aload_n (i := 0) (pc := 1) dL_cell_1 rfl rfl ?_
  refine v_slen (pc := 2) hX dL_cell_2 ?_
  refine v_icmp_ge (pc := 3) (tgt := 12) dL_cell_3 rfl hf (fun hf => ?_) (fun hf => ?_)
  · refine v_iconst (pc := 12) (0:Int32) dL_cell_12 rfl ?_
    exact v_iret (pc := 13) dL_cell_13 (by decide) (by decide) hf
  refine v_aload_n (i := 0) (pc := 6) dL_cell_6 rfl rfl ?_
  refine v_iload_n (i := 1) (pc := 7) dL_cell_7 rfl rfl ?_
  refine v_sldB (pc := 8) hX dL_cell_8 hf (fun i1 hf => ?_)
  refine v_goto (pc := 9) (tgt := 13) dL_cell_9 rfl ?_
  exact v_iret (pc := 13) dL_cell_13 (by decide) (by decide) hf

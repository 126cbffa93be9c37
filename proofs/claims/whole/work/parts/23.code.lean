abbrev rmM_symmetry : Room := { frames := 1, cells := 0, slots := 0, locals := 23 }
def fM_symmetry_131 (k4 : (MH × Nat × Int32 × Int32 × Int32) → Option (MH × Int32)) (k34 : (MH × Nat × Int32 × Int32 × Int32 × Int32 × Int32 × Int32 × Int32) → Option (MH × Int32)) (k81 : (MH × Nat × Int32 × Int32 × Int32 × Int32 × Int32 × Int32 × Int32 × Int32 × Int32 × Int32) → Option (MH × Int32)) (n : Nat) (h : MH) (s0 : Int32) (x0 : Nat) (x1 : Int32) (x2 : Int32) (x3 : Int32) (x4 : Int32) (x5 : Int32) (x6 : Int32) (x7 : Int32) (x8 : Int32) (x10 : Int32) : Option (MH × Int32) := (k81 (h, x0, x1, x2, x3, x4, x5, x6, x7, x8, s0, (x10 + (1:Int32))))
set_option maxRecDepth 20000 in
set_option maxHeartbeats 4000000 in
theorem tM_symmetry_131 {g : Gh} {h' : MH} {r' : Int32} {k4 : (MH × Nat × Int32 × Int32 × Int32) → Option (MH × Int32)} {k34 : (MH × Nat × Int32 × Int32 × Int32 × Int32 × Int32 × Int32 × Int32) → Option (MH × Int32)} {k81 : (MH × Nat × Int32 × Int32 × Int32 × Int32 × Int32 × Int32 × Int32 × Int32 × Int32 × Int32) → Option (MH × Int32)} (hk4 : ∀ (h : MH) (x0 : Nat) (x1 : Int32) (x2 : Int32) (x3 : Int32), k4 (h, x0, x1, x2, x3) = some (h', r') → V g yM_symmetry cM_symmetry 11 (some .int) rmM_symmetry (ZQ g rmM_symmetry h' (some (.int r'))) 0 0 h 4 [some (.ref x0), some (.int x1), some (.int x2), some (.int x3), none, none, none, none, none, none, none] []) (hk34 : ∀ (h : MH) (x0 : Nat) (x1 : Int32) (x2 : Int32) (x3 : Int32) (x4 : Int32) (x5 : Int32) (x6 : Int32) (x7 : Int32), k34 (h, x0, x1, x2, x3, x4, x5, x6, x7) = some (h', r') → V g yM_symmetry cM_symmetry 11 (some .int) rmM_symmetry (ZQ g rmM_symmetry h' (some (.int r'))) 0 0 h 34 [some (.ref x0), some (.int x1), some (.int x2), some (.int x3), some (.int x4), some (.int x5), some (.int x6), some (.int x7), none, none, none] []) (hk81 : ∀ (h : MH) (x0 : Nat) (x1 : Int32) (x2 : Int32) (x3 : Int32) (x4 : Int32) (x5 : Int32) (x6 : Int32) (x7 : Int32) (x8 : Int32) (x9 : Int32) (x10 : Int32), k81 (h, x0, x1, x2, x3, x4, x5, x6, x7, x8, x9, x10) = some (h', r') → V g yM_symmetry cM_symmetry 11 (some .int) rmM_symmetry (ZQ g rmM_symmetry h' (some (.int r'))) 0 0 h 81 [some (.ref x0), some (.int x1), some (.int x2), some (.int x3), some (.int x4), some (.int x5), some (.int x6), some (.int x7), some (.int x8), some (.int x9), some (.int x10)] []) (n : Nat) (h : MH) (s0 : Int32) (x0 : Nat) (x1 : Int32) (x2 : Int32) (x3 : Int32) (x4 : Int32) (x5 : Int32) (x6 : Int32) (x7 : Int32) (x8 : Int32) (x10 : Int32) (hf : fM_symmetry_131 k4 k34 k81 n h s0 x0 x1 x2 x3 x4 x5 x6 x7 x8 x10 = some (h', r')) : V g yM_symmetry cM_symmetry 11 (some .int) rmM_symmetry (ZQ g rmM_symmetry h' (some (.int r'))) 0 0 h 131 [some (.ref x0), some (.int x1), some (.int x2), some (.int x3), some (.int x4), some (.int x5), some (.int x6), some (.int x7), some (.int x8), none, some (.int x10)] [.int s0] := by
  unfold fM_symmetry_131 at hf
  refine v_istore (pc := 131) (ls' := [some (.ref x0), some (.int x1), some (.int x2), some (.int x3), some (.int x4), some (.int x5), some (.int x6), some (.int x7), some (.int x8), some (.int s0), some (.int x10)]) dM_symmetry_131 (by decide) rfl ?_
  refine v_iinc (pc := 133) (v := (x10 + (1:Int32))) (ls' := [some (.ref x0), some (.int x1), some (.int x2), some (.int x3), some (.int x4), some (.int x5), some (.int x6), some (.int x7), some (.int x8), some (.int s0), some (.int (x10 + (1:Int32)))]) dM_symmetry_133 rfl rfl (by decide) rfl ?_
  refine v_goto (pc := 136) (tgt := 81) dM_symmetry_136 rfl ?_
  refine v_wk (ls' := [some (.ref x0), some (.int x1), some (.int x2), some (.int x3), some (.int x4), some (.int x5), some (.int x6), some (.int x7), some (.int x8), some (.int s0), some (.int (x10 + (1:Int32)))]) ⟨rfl, rfl, rfl, rfl, rfl, rfl, rfl, rfl, rfl, rfl, rfl, trivial⟩ ?_
  exact hk81 h x0 x1 x2 x3 x4 x5 x6 x7 x8 s0 (x10 + (1:Int32)) hf
def fM_symmetry_152 (k4 : (MH × Nat × Int32 × Int32 × Int32) → Option (MH × Int32)) (k34 : (MH × Nat × Int32 × Int32 × Int32 × Int32 × Int32 × Int32 × Int32) → Option (MH × Int32)) (n : Nat) (h : MH) (s0 : Int32) (x0 : Nat) (x1 : Int32) (x2 : Int32) (x3 : Int32) (x4 : Int32) (x7 : Int32) (x8 : Int32) : Option (MH × Int32) := (k34 (h, x0, x1, (x2 * s0), x3, x4, s0, x7, x8))
set_option maxRecDepth 20000 in
set_option maxHeartbeats 4000000 in
theorem tM_symmetry_152 {g : Gh} {h' : MH} {r' : Int32} {k4 : (MH × Nat × Int32 × Int32 × Int32) → Option (MH × Int32)} {k34 : (MH × Nat × Int32 × Int32 × Int32 × Int32 × Int32 × Int32 × Int32) → Option (MH × Int32)} (hk4 : ∀ (h : MH) (x0 : Nat) (x1 : Int32) (x2 : Int32) (x3 : Int32), k4 (h, x0, x1, x2, x3) = some (h', r') → V g yM_symmetry cM_symmetry 11 (some .int) rmM_symmetry (ZQ g rmM_symmetry h' (some (.int r'))) 0 0 h 4 [some (.ref x0), some (.int x1), some (.int x2), some (.int x3), none, none, none, none, none, none, none] []) (hk34 : ∀ (h : MH) (x0 : Nat) (x1 : Int32) (x2 : Int32) (x3 : Int32) (x4 : Int32) (x5 : Int32) (x6 : Int32) (x7 : Int32), k34 (h, x0, x1, x2, x3, x4, x5, x6, x7) = some (h', r') → V g yM_symmetry cM_symmetry 11 (some .int) rmM_symmetry (ZQ g rmM_symmetry h' (some (.int r'))) 0 0 h 34 [some (.ref x0), some (.int x1), some (.int x2), some (.int x3), some (.int x4), some (.int x5), some (.int x6), some (.int x7), none, none, none] []) (n : Nat) (h : MH) (s0 : Int32) (x0 : Nat) (x1 : Int32) (x2 : Int32) (x3 : Int32) (x4 : Int32) (x7 : Int32) (x8 : Int32) (hf : fM_symmetry_152 k4 k34 n h s0 x0 x1 x2 x3 x4 x7 x8 = some (h', r')) : V g yM_symmetry cM_symmetry 11 (some .int) rmM_symmetry (ZQ g rmM_symmetry h' (some (.int r'))) 0 0 h 152 [some (.ref x0), some (.int x1), some (.int x2), some (.int x3), some (.int x4), none, none, some (.int x7), some (.int x8), none, none] [.int s0] := by
  unfold fM_symmetry_152 at hf
  refine v_istore (pc := 152) (ls' := [some (.ref x0), some (.int x1), some (.int x2), some (.int x3), some (.int x4), some (.int s0), none, some (.int x7), some (.int x8), none, none]) dM_symmetry_152 (by decide) rfl ?_
  refine v_iload_n (i := 2) (pc := 154) dM_symmetry_154 rfl rfl ?_
  refine v_iload (pc := 155) dM_symmetry_155 rfl ?_
  refine v_imul (pc := 157) dM_symmetry_157 ?_
  refine v_istore_n (i := 2) (pc := 158) (ls' := [some (.ref x0), some (.int x1), some (.int (x2 * s0)), some (.int x3), some (.int x4), some (.int s0), none, some (.int x7), some (.int x8), none, none]) dM_symmetry_158 rfl (by decide) rfl ?_
  refine v_iload (pc := 159) dM_symmetry_159 rfl ?_
  refine v_istore (pc := 161) (ls' := [some (.ref x0), some (.int x1), some (.int (x2 * s0)), some (.int x3), some (.int x4), some (.int s0), some (.int x7), some (.int x7), some (.int x8), none, none]) dM_symmetry_161 (by decide) rfl ?_
  refine v_iload (pc := 163) dM_symmetry_163 rfl ?_
  refine v_istore (pc := 165) (ls' := [some (.ref x0), some (.int x1), some (.int (x2 * s0)), some (.int x3), some (.int x4), some (.int s0), some (.int x7), some (.int x8), some (.int x8), none, none]) dM_symmetry_165 (by decide) rfl ?_
  refine v_goto (pc := 167) (tgt := 34) dM_symmetry_167 rfl ?_
  refine v_wk (ls' := [some (.ref x0), some (.int x1), some (.int (x2 * s0)), some (.int x3), some (.int x4), some (.int s0), some (.int x7), some (.int x8), none, none, none]) ⟨rfl, rfl, rfl, rfl, rfl, rfl, rfl, rfl, trivial⟩ ?_
  exact hk34 h x0 x1 (x2 * s0) x3 x4 s0 x7 x8 hf
def fM_symmetry_139 (k4 : (MH × Nat × Int32 × Int32 × Int32) → Option (MH × Int32)) (k34 : (MH × Nat × Int32 × Int32 × Int32 × Int32 × Int32 × Int32 × Int32) → Option (MH × Int32)) (n : Nat) (h : MH) (x0 : Nat) (x1 : Int32) (x2 : Int32) (x3 : Int32) (x4 : Int32) (x5 : Int32) (x7 : Int32) (x8 : Int32) (x9 : Int32) : Option (MH × Int32) := (if x9 = (0:Int32) then (fM_symmetry_152 k4 k34 n h (1:Int32) x0 x1 x2 x3 x4 x7 x8) else (fM_symmetry_152 k4 k34 n h (x5 + (1:Int32)) x0 x1 x2 x3 x4 x7 x8))
set_option maxRecDepth 20000 in
set_option maxHeartbeats 4000000 in
theorem tM_symmetry_139 {g : Gh} {h' : MH} {r' : Int32} {k4 : (MH × Nat × Int32 × Int32 × Int32) → Option (MH × Int32)} {k34 : (MH × Nat × Int32 × Int32 × Int32 × Int32 × Int32 × Int32 × Int32) → Option (MH × Int32)} (hk4 : ∀ (h : MH) (x0 : Nat) (x1 : Int32) (x2 : Int32) (x3 : Int32), k4 (h, x0, x1, x2, x3) = some (h', r') → V g yM_symmetry cM_symmetry 11 (some .int) rmM_symmetry (ZQ g rmM_symmetry h' (some (.int r'))) 0 0 h 4 [some (.ref x0), some (.int x1), some (.int x2), some (.int x3), none, none, none, none, none, none, none] []) (hk34 : ∀ (h : MH) (x0 : Nat) (x1 : Int32) (x2 : Int32) (x3 : Int32) (x4 : Int32) (x5 : Int32) (x6 : Int32) (x7 : Int32), k34 (h, x0, x1, x2, x3, x4, x5, x6, x7) = some (h', r') → V g yM_symmetry cM_symmetry 11 (some .int) rmM_symmetry (ZQ g rmM_symmetry h' (some (.int r'))) 0 0 h 34 [some (.ref x0), some (.int x1), some (.int x2), some (.int x3), some (.int x4), some (.int x5), some (.int x6), some (.int x7), none, none, none] []) (n : Nat) (h : MH) (x0 : Nat) (x1 : Int32) (x2 : Int32) (x3 : Int32) (x4 : Int32) (x5 : Int32) (x7 : Int32) (x8 : Int32) (x9 : Int32) (hf : fM_symmetry_139 k4 k34 n h x0 x1 x2 x3 x4 x5 x7 x8 x9 = some (h', r')) : V g yM_symmetry cM_symmetry 11 (some .int) rmM_symmetry (ZQ g rmM_symmetry h' (some (.int r'))) 0 0 h 139 [some (.ref x0), some (.int x1), some (.int x2), some (.int x3), some (.int x4), some (.int x5), none, some (.int x7), some (.int x8), some (.int x9), none] [] := by
  unfold fM_symmetry_139 at hf
  refine v_iload (pc := 139) dM_symmetry_139 rfl ?_
  refine v_if_eq (pc := 141) (tgt := 151) dM_symmetry_141 rfl hf (fun hf => ?_) (fun hf => ?_)
  · refine v_iconst (pc := 151) (1:Int32) dM_symmetry_151 rfl ?_
    refine v_wk (ls' := [some (.ref x0), some (.int x1), some (.int x2), some (.int x3), some (.int x4), none, none, some (.int x7), some (.int x8), none, none]) ⟨rfl, rfl, rfl, rfl, rfl, rfl, rfl, trivial⟩ ?_
    exact tM_symmetry_152 hk4 hk34 n h (1:Int32) x0 x1 x2 x3 x4 x7 x8 hf
  refine v_iload (pc := 144) dM_symmetry_144 rfl ?_
  refine v_iconst (pc := 146) (1:Int32) dM_symmetry_146 rfl ?_
  refine v_iadd (pc := 147) dM_symmetry_147 ?_
  refine v_goto (pc := 148) (tgt := 152) dM_symmetry_148 rfl ?_
  refine v_wk (ls' := [some (.ref x0), some (.int x1), some (.int x2), some (.int x3), some (.int x4), none, none, some (.int x7), some (.int x8), none, none]) ⟨rfl, rfl, rfl, rfl, rfl, rfl, rfl, trivial⟩ ?_
  exact tM_symmetry_152 hk4 hk34 n h (x5 + (1:Int32)) x0 x1 x2 x3 x4 x7 x8 hf
def bM_symmetry_81 (k4 : (MH × Nat × Int32 × Int32 × Int32) → Option (MH × Int32)) (k34 : (MH × Nat × Int32 × Int32 × Int32 × Int32 × Int32 × Int32 × Int32) → Option (MH × Int32)) (n : Nat) (k81 : (MH × Nat × Int32 × Int32 × Int32 × Int32 × Int32 × Int32 × Int32 × Int32 × Int32 × Int32) → Option (MH × Int32)) (h : MH) (x0 : Nat) (x1 : Int32) (x2 : Int32) (x3 : Int32) (x4 : Int32) (x5 : Int32) (x6 : Int32) (x7 : Int32) (x8 : Int32) (x9 : Int32) (x10 : Int32) : Option (MH × Int32) := (if x8 ≤ x10 then (fM_symmetry_139 k4 k34 n h x0 x1 x2 x3 x4 x5 x7 x8 x9) else (if x9 = (0:Int32) then (fM_symmetry_139 k4 k34 n h x0 x1 x2 x3 x4 x5 x7 x8 x9) else ((gfR h x0 [12] 4).bind fun a1 => ((rdI h a1 (((6:Int32) * x1) + x10)).bind fun i2 => ((gfR h x0 [12] 4).bind fun a3 => ((rdI h a3 (((((6:Int32) * x1) + x10) - x7) + x6)).bind fun i4 => (if i2 = i4 then (fM_symmetry_131 k4 k34 k81 n h (1:Int32) x0 x1 x2 x3 x4 x5 x6 x7 x8 x10) else (fM_symmetry_131 k4 k34 k81 n h (0:Int32) x0 x1 x2 x3 x4 x5 x6 x7 x8 x10))))))))
def fM_symmetry_81 (k4 : (MH × Nat × Int32 × Int32 × Int32) → Option (MH × Int32)) (k34 : (MH × Nat × Int32 × Int32 × Int32 × Int32 × Int32 × Int32 × Int32) → Option (MH × Int32)) (n : Nat) (h : MH) (x0 : Nat) (x1 : Int32) (x2 : Int32) (x3 : Int32) (x4 : Int32) (x5 : Int32) (x6 : Int32) (x7 : Int32) (x8 : Int32) (x9 : Int32) (x10 : Int32) : Option (MH × Int32) := lp (fun n k s => bM_symmetry_81 k4 k34 n k s.1 s.2.1 s.2.2.1 s.2.2.2.1 s.2.2.2.2.1 s.2.2.2.2.2.1 s.2.2.2.2.2.2.1 s.2.2.2.2.2.2.2.1 s.2.2.2.2.2.2.2.2.1 s.2.2.2.2.2.2.2.2.2.1 s.2.2.2.2.2.2.2.2.2.2.1 s.2.2.2.2.2.2.2.2.2.2.2) n (h, x0, x1, x2, x3, x4, x5, x6, x7, x8, x9, x10)
set_option maxRecDepth 20000 in
set_option maxHeartbeats 4000000 in
theorem tM_symmetry_81 {g : Gh} {h' : MH} {r' : Int32} {k4 : (MH × Nat × Int32 × Int32 × Int32) → Option (MH × Int32)} {k34 : (MH × Nat × Int32 × Int32 × Int32 × Int32 × Int32 × Int32 × Int32) → Option (MH × Int32)} (hk4 : ∀ (h : MH) (x0 : Nat) (x1 : Int32) (x2 : Int32) (x3 : Int32), k4 (h, x0, x1, x2, x3) = some (h', r') → V g yM_symmetry cM_symmetry 11 (some .int) rmM_symmetry (ZQ g rmM_symmetry h' (some (.int r'))) 0 0 h 4 [some (.ref x0), some (.int x1), some (.int x2), some (.int x3), none, none, none, none, none, none, none] []) (hk34 : ∀ (h : MH) (x0 : Nat) (x1 : Int32) (x2 : Int32) (x3 : Int32) (x4 : Int32) (x5 : Int32) (x6 : Int32) (x7 : Int32), k34 (h, x0, x1, x2, x3, x4, x5, x6, x7) = some (h', r') → V g yM_symmetry cM_symmetry 11 (some .int) rmM_symmetry (ZQ g rmM_symmetry h' (some (.int r'))) 0 0 h 34 [some (.ref x0), some (.int x1), some (.int x2), some (.int x3), some (.int x4), some (.int x5), some (.int x6), some (.int x7), none, none, none] []) (n : Nat) (h : MH) (x0 : Nat) (x1 : Int32) (x2 : Int32) (x3 : Int32) (x4 : Int32) (x5 : Int32) (x6 : Int32) (x7 : Int32) (x8 : Int32) (x9 : Int32) (x10 : Int32) (hf : fM_symmetry_81 k4 k34 n h x0 x1 x2 x3 x4 x5 x6 x7 x8 x9 x10 = some (h', r')) : V g yM_symmetry cM_symmetry 11 (some .int) rmM_symmetry (ZQ g rmM_symmetry h' (some (.int r'))) 0 0 h 81 [some (.ref x0), some (.int x1), some (.int x2), some (.int x3), some (.int x4), some (.int x5), some (.int x6), some (.int x7), some (.int x8), some (.int x9), some (.int x10)] [] := by
  unfold fM_symmetry_81 at hf
  refine lp_ind (P := fun s => V g yM_symmetry cM_symmetry 11 (some .int) rmM_symmetry (ZQ g rmM_symmetry h' (some (.int r'))) 0 0 s.1 81 [some (.ref s.2.1), some (.int s.2.2.1), some (.int s.2.2.2.1), some (.int s.2.2.2.2.1), some (.int s.2.2.2.2.2.1), some (.int s.2.2.2.2.2.2.1), some (.int s.2.2.2.2.2.2.2.1), some (.int s.2.2.2.2.2.2.2.2.1), some (.int s.2.2.2.2.2.2.2.2.2.1), some (.int s.2.2.2.2.2.2.2.2.2.2.1), some (.int s.2.2.2.2.2.2.2.2.2.2.2)] []) (fun n k81 hk81 s hf => ?_) n (h, x0, x1, x2, x3, x4, x5, x6, x7, x8, x9, x10) hf
  obtain ⟨h, x0, x1, x2, x3, x4, x5, x6, x7, x8, x9, x10⟩ := s
  replace hk81 : ∀ (h : MH) (x0 : Nat) (x1 : Int32) (x2 : Int32) (x3 : Int32) (x4 : Int32) (x5 : Int32) (x6 : Int32) (x7 : Int32) (x8 : Int32) (x9 : Int32) (x10 : Int32), k81 (h, x0, x1, x2, x3, x4, x5, x6, x7, x8, x9, x10) = some (h', r') → V g yM_symmetry cM_symmetry 11 (some .int) rmM_symmetry (ZQ g rmM_symmetry h' (some (.int r'))) 0 0 h 81 [some (.ref x0), some (.int x1), some (.int x2), some (.int x3), some (.int x4), some (.int x5), some (.int x6), some (.int x7), some (.int x8), some (.int x9), some (.int x10)] [] := fun h x0 x1 x2 x3 x4 x5 x6 x7 x8 x9 x10 => hk81 (h, x0, x1, x2, x3, x4, x5, x6, x7, x8, x9, x10)
  replace hf : bM_symmetry_81 k4 k34 n k81 h x0 x1 x2 x3 x4 x5 x6 x7 x8 x9 x10 = some (h', r') := hf
  change V g yM_symmetry cM_symmetry 11 (some .int) rmM_symmetry (ZQ g rmM_symmetry h' (some (.int r'))) 0 0 h 81 [some (.ref x0), some (.int x1), some (.int x2), some (.int x3), some (.int x4), some (.int x5), some (.int x6), some (.int x7), some (.int x8), some (.int x9), some (.int x10)] []
  unfold bM_symmetry_81 at hf
  refine v_iload (pc := 81) dM_symmetry_81 rfl ?_
  refine v_iload (pc := 83) dM_symmetry_83 rfl ?_
  refine v_icmp_ge (pc := 85) (tgt := 139) dM_symmetry_85 rfl hf (fun hf => ?_) (fun hf => ?_)
  · refine v_wk (ls' := [some (.ref x0), some (.int x1), some (.int x2), some (.int x3), some (.int x4), some (.int x5), none, some (.int x7), some (.int x8), some (.int x9), none]) ⟨rfl, rfl, rfl, rfl, rfl, rfl, rfl, rfl, rfl, trivial⟩ ?_
    exact tM_symmetry_139 hk4 hk34 n h x0 x1 x2 x3 x4 x5 x7 x8 x9 hf
  refine v_iload (pc := 88) dM_symmetry_88 rfl ?_
  refine v_if_eq (pc := 90) (tgt := 139) dM_symmetry_90 rfl hf (fun hf => ?_) (fun hf => ?_)
  · refine v_wk (ls' := [some (.ref x0), some (.int x1), some (.int x2), some (.int x3), some (.int x4), some (.int x5), none, some (.int x7), some (.int x8), some (.int x9), none]) ⟨rfl, rfl, rfl, rfl, rfl, rfl, rfl, rfl, rfl, trivial⟩ ?_
    exact tM_symmetry_139 hk4 hk34 n h x0 x1 x2 x3 x4 x5 x7 x8 x9 hf
  refine v_aload_n (i := 0) (pc := 93) dM_symmetry_93 rfl rfl ?_
  refine v_getR (pc := 94) fgM_21 dM_symmetry_94 hf (fun a1 hf => ?_)
  refine v_bipush (pc := 97) (6:Int32) dM_symmetry_97 rfl ?_
  refine v_iload_n (i := 1) (pc := 99) dM_symmetry_99 rfl rfl ?_
  refine v_imul (pc := 100) dM_symmetry_100 ?_
  refine v_iload (pc := 101) dM_symmetry_101 rfl ?_
  refine v_iadd (pc := 103) dM_symmetry_103 ?_
  refine v_iald (pc := 104) dM_symmetry_104 hf (fun i2 hf => ?_)
  refine v_aload_n (i := 0) (pc := 105) dM_symmetry_105 rfl rfl ?_
  refine v_getR (pc := 106) fgM_21 dM_symmetry_106 hf (fun a3 hf => ?_)
  refine v_bipush (pc := 109) (6:Int32) dM_symmetry_109 rfl ?_
  refine v_iload_n (i := 1) (pc := 111) dM_symmetry_111 rfl rfl ?_
  refine v_imul (pc := 112) dM_symmetry_112 ?_
  refine v_iload (pc := 113) dM_symmetry_113 rfl ?_
  refine v_iadd (pc := 115) dM_symmetry_115 ?_
  refine v_iload (pc := 116) dM_symmetry_116 rfl ?_
  refine v_isub (pc := 118) dM_symmetry_118 ?_
  refine v_iload (pc := 119) dM_symmetry_119 rfl ?_
  refine v_iadd (pc := 121) dM_symmetry_121 ?_
  refine v_iald (pc := 122) dM_symmetry_122 hf (fun i4 hf => ?_)
  refine v_icmp_ne (pc := 123) (tgt := 130) dM_symmetry_123 rfl hf (fun hf => ?_) (fun hf => ?_)
  rotate_left
  · refine v_iconst (pc := 130) (0:Int32) dM_symmetry_130 rfl ?_
    refine v_wk (ls' := [some (.ref x0), some (.int x1), some (.int x2), some (.int x3), some (.int x4), some (.int x5), some (.int x6), some (.int x7), some (.int x8), none, some (.int x10)]) ⟨rfl, rfl, rfl, rfl, rfl, rfl, rfl, rfl, rfl, rfl, trivial⟩ ?_
    exact tM_symmetry_131 hk4 hk34 hk81 n h (0:Int32) x0 x1 x2 x3 x4 x5 x6 x7 x8 x10 hf
  refine v_iconst (pc := 126) (1:Int32) dM_symmetry_126 rfl ?_
  refine v_goto (pc := 127) (tgt := 131) dM_symmetry_127 rfl ?_
  refine v_wk (ls' := [some (.ref x0), some (.int x1), some (.int x2), some (.int x3), some (.int x4), some (.int x5), some (.int x6), some (.int x7), some (.int x8), none, some (.int x10)]) ⟨rfl, rfl, rfl, rfl, rfl, rfl, rfl, rfl, rfl, rfl, trivial⟩ ?_
  exact tM_symmetry_131 hk4 hk34 hk81 n h (1:Int32) x0 x1 x2 x3 x4 x5 x6 x7 x8 x10 hf
def fM_symmetry_75 (k4 : (MH × Nat × Int32 × Int32 × Int32) → Option (MH × Int32)) (k34 : (MH × Nat × Int32 × Int32 × Int32 × Int32 × Int32 × Int32 × Int32) → Option (MH × Int32)) (n : Nat) (h : MH) (s0 : Int32) (x0 : Nat) (x1 : Int32) (x2 : Int32) (x3 : Int32) (x4 : Int32) (x5 : Int32) (x6 : Int32) (x7 : Int32) (x8 : Int32) : Option (MH × Int32) := (fM_symmetry_81 k4 k34 n h x0 x1 x2 x3 x4 x5 x6 x7 x8 s0 x7)
set_option maxRecDepth 20000 in
set_option maxHeartbeats 4000000 in
theorem tM_symmetry_75 {g : Gh} {h' : MH} {r' : Int32} {k4 : (MH × Nat × Int32 × Int32 × Int32) → Option (MH × Int32)} {k34 : (MH × Nat × Int32 × Int32 × Int32 × Int32 × Int32 × Int32 × Int32) → Option (MH × Int32)} (hk4 : ∀ (h : MH) (x0 : Nat) (x1 : Int32) (x2 : Int32) (x3 : Int32), k4 (h, x0, x1, x2, x3) = some (h', r') → V g yM_symmetry cM_symmetry 11 (some .int) rmM_symmetry (ZQ g rmM_symmetry h' (some (.int r'))) 0 0 h 4 [some (.ref x0), some (.int x1), some (.int x2), some (.int x3), none, none, none, none, none, none, none] []) (hk34 : ∀ (h : MH) (x0 : Nat) (x1 : Int32) (x2 : Int32) (x3 : Int32) (x4 : Int32) (x5 : Int32) (x6 : Int32) (x7 : Int32), k34 (h, x0, x1, x2, x3, x4, x5, x6, x7) = some (h', r') → V g yM_symmetry cM_symmetry 11 (some .int) rmM_symmetry (ZQ g rmM_symmetry h' (some (.int r'))) 0 0 h 34 [some (.ref x0), some (.int x1), some (.int x2), some (.int x3), some (.int x4), some (.int x5), some (.int x6), some (.int x7), none, none, none] []) (n : Nat) (h : MH) (s0 : Int32) (x0 : Nat) (x1 : Int32) (x2 : Int32) (x3 : Int32) (x4 : Int32) (x5 : Int32) (x6 : Int32) (x7 : Int32) (x8 : Int32) (hf : fM_symmetry_75 k4 k34 n h s0 x0 x1 x2 x3 x4 x5 x6 x7 x8 = some (h', r')) : V g yM_symmetry cM_symmetry 11 (some .int) rmM_symmetry (ZQ g rmM_symmetry h' (some (.int r'))) 0 0 h 75 [some (.ref x0), some (.int x1), some (.int x2), some (.int x3), some (.int x4), some (.int x5), some (.int x6), some (.int x7), some (.int x8), none, none] [.int s0] := by
  unfold fM_symmetry_75 at hf
  refine v_istore (pc := 75) (ls' := [some (.ref x0), some (.int x1), some (.int x2), some (.int x3), some (.int x4), some (.int x5), some (.int x6), some (.int x7), some (.int x8), some (.int s0), none]) dM_symmetry_75 (by decide) rfl ?_
  refine v_iload (pc := 77) dM_symmetry_77 rfl ?_
  refine v_istore (pc := 79) (ls' := [some (.ref x0), some (.int x1), some (.int x2), some (.int x3), some (.int x4), some (.int x5), some (.int x6), some (.int x7), some (.int x8), some (.int s0), some (.int x7)]) dM_symmetry_79 (by decide) rfl ?_
  refine v_wk (ls' := [some (.ref x0), some (.int x1), some (.int x2), some (.int x3), some (.int x4), some (.int x5), some (.int x6), some (.int x7), some (.int x8), some (.int s0), some (.int x7)]) ⟨rfl, rfl, rfl, rfl, rfl, rfl, rfl, rfl, rfl, rfl, rfl, trivial⟩ ?_
  exact tM_symmetry_81 hk4 hk34 n h x0 x1 x2 x3 x4 x5 x6 x7 x8 s0 x7 hf
def fM_symmetry_74 (k4 : (MH × Nat × Int32 × Int32 × Int32) → Option (MH × Int32)) (k34 : (MH × Nat × Int32 × Int32 × Int32 × Int32 × Int32 × Int32 × Int32) → Option (MH × Int32)) (n : Nat) (h : MH) (x0 : Nat) (x1 : Int32) (x2 : Int32) (x3 : Int32) (x4 : Int32) (x5 : Int32) (x6 : Int32) (x7 : Int32) (x8 : Int32) : Option (MH × Int32) := (fM_symmetry_75 k4 k34 n h (0:Int32) x0 x1 x2 x3 x4 x5 x6 x7 x8)
set_option maxRecDepth 20000 in
set_option maxHeartbeats 4000000 in
theorem tM_symmetry_74 {g : Gh} {h' : MH} {r' : Int32} {k4 : (MH × Nat × Int32 × Int32 × Int32) → Option (MH × Int32)} {k34 : (MH × Nat × Int32 × Int32 × Int32 × Int32 × Int32 × Int32 × Int32) → Option (MH × Int32)} (hk4 : ∀ (h : MH) (x0 : Nat) (x1 : Int32) (x2 : Int32) (x3 : Int32), k4 (h, x0, x1, x2, x3) = some (h', r') → V g yM_symmetry cM_symmetry 11 (some .int) rmM_symmetry (ZQ g rmM_symmetry h' (some (.int r'))) 0 0 h 4 [some (.ref x0), some (.int x1), some (.int x2), some (.int x3), none, none, none, none, none, none, none] []) (hk34 : ∀ (h : MH) (x0 : Nat) (x1 : Int32) (x2 : Int32) (x3 : Int32) (x4 : Int32) (x5 : Int32) (x6 : Int32) (x7 : Int32), k34 (h, x0, x1, x2, x3, x4, x5, x6, x7) = some (h', r') → V g yM_symmetry cM_symmetry 11 (some .int) rmM_symmetry (ZQ g rmM_symmetry h' (some (.int r'))) 0 0 h 34 [some (.ref x0), some (.int x1), some (.int x2), some (.int x3), some (.int x4), some (.int x5), some (.int x6), some (.int x7), none, none, none] []) (n : Nat) (h : MH) (x0 : Nat) (x1 : Int32) (x2 : Int32) (x3 : Int32) (x4 : Int32) (x5 : Int32) (x6 : Int32) (x7 : Int32) (x8 : Int32) (hf : fM_symmetry_74 k4 k34 n h x0 x1 x2 x3 x4 x5 x6 x7 x8 = some (h', r')) : V g yM_symmetry cM_symmetry 11 (some .int) rmM_symmetry (ZQ g rmM_symmetry h' (some (.int r'))) 0 0 h 74 [some (.ref x0), some (.int x1), some (.int x2), some (.int x3), some (.int x4), some (.int x5), some (.int x6), some (.int x7), some (.int x8), none, none] [] := by
  unfold fM_symmetry_74 at hf
  refine v_iconst (pc := 74) (0:Int32) dM_symmetry_74 rfl ?_
  refine v_wk (ls' := [some (.ref x0), some (.int x1), some (.int x2), some (.int x3), some (.int x4), some (.int x5), some (.int x6), some (.int x7), some (.int x8), none, none]) ⟨rfl, rfl, rfl, rfl, rfl, rfl, rfl, rfl, rfl, trivial⟩ ?_
  exact tM_symmetry_75 hk4 hk34 n h (0:Int32) x0 x1 x2 x3 x4 x5 x6 x7 x8 hf
def bM_symmetry_34 (k4 : (MH × Nat × Int32 × Int32 × Int32) → Option (MH × Int32)) (n : Nat) (k34 : (MH × Nat × Int32 × Int32 × Int32 × Int32 × Int32 × Int32 × Int32) → Option (MH × Int32)) (h : MH) (x0 : Nat) (x1 : Int32) (x2 : Int32) (x3 : Int32) (x4 : Int32) (x5 : Int32) (x6 : Int32) (x7 : Int32) : Option (MH × Int32) := (if x4 ≤ x7 then (k4 (h, x0, x1, x2, (x3 + (1:Int32)))) else ((chk h x0 12).bind fun _ => (bnd2 (fM_endOf n h x0 x1 x7) fun h1 i2 => (if x6 = (-1000000:Int32) then (fM_symmetry_74 k4 k34 n h1 x0 x1 x2 x3 x4 x5 x6 x7 i2) else (if (i2 - x7) = (x7 - x6) then (fM_symmetry_75 k4 k34 n h1 (1:Int32) x0 x1 x2 x3 x4 x5 x6 x7 i2) else (fM_symmetry_74 k4 k34 n h1 x0 x1 x2 x3 x4 x5 x6 x7 i2))))))
def fM_symmetry_34 (k4 : (MH × Nat × Int32 × Int32 × Int32) → Option (MH × Int32)) (n : Nat) (h : MH) (x0 : Nat) (x1 : Int32) (x2 : Int32) (x3 : Int32) (x4 : Int32) (x5 : Int32) (x6 : Int32) (x7 : Int32) : Option (MH × Int32) := lp (fun n k s => bM_symmetry_34 k4 n k s.1 s.2.1 s.2.2.1 s.2.2.2.1 s.2.2.2.2.1 s.2.2.2.2.2.1 s.2.2.2.2.2.2.1 s.2.2.2.2.2.2.2.1 s.2.2.2.2.2.2.2.2) n (h, x0, x1, x2, x3, x4, x5, x6, x7)
set_option maxRecDepth 20000 in
set_option maxHeartbeats 4000000 in
theorem tM_symmetry_34 {g : Gh} {h' : MH} {r' : Int32} {k4 : (MH × Nat × Int32 × Int32 × Int32) → Option (MH × Int32)} (hk4 : ∀ (h : MH) (x0 : Nat) (x1 : Int32) (x2 : Int32) (x3 : Int32), k4 (h, x0, x1, x2, x3) = some (h', r') → V g yM_symmetry cM_symmetry 11 (some .int) rmM_symmetry (ZQ g rmM_symmetry h' (some (.int r'))) 0 0 h 4 [some (.ref x0), some (.int x1), some (.int x2), some (.int x3), none, none, none, none, none, none, none] []) (n : Nat) (h : MH) (x0 : Nat) (x1 : Int32) (x2 : Int32) (x3 : Int32) (x4 : Int32) (x5 : Int32) (x6 : Int32) (x7 : Int32) (hf : fM_symmetry_34 k4 n h x0 x1 x2 x3 x4 x5 x6 x7 = some (h', r')) : V g yM_symmetry cM_symmetry 11 (some .int) rmM_symmetry (ZQ g rmM_symmetry h' (some (.int r'))) 0 0 h 34 [some (.ref x0), some (.int x1), some (.int x2), some (.int x3), some (.int x4), some (.int x5), some (.int x6), some (.int x7), none, none, none] [] := by
  unfold fM_symmetry_34 at hf
  refine lp_ind (P := fun s => V g yM_symmetry cM_symmetry 11 (some .int) rmM_symmetry (ZQ g rmM_symmetry h' (some (.int r'))) 0 0 s.1 34 [some (.ref s.2.1), some (.int s.2.2.1), some (.int s.2.2.2.1), some (.int s.2.2.2.2.1), some (.int s.2.2.2.2.2.1), some (.int s.2.2.2.2.2.2.1), some (.int s.2.2.2.2.2.2.2.1), some (.int s.2.2.2.2.2.2.2.2), none, none, none] []) (fun n k34 hk34 s hf => ?_) n (h, x0, x1, x2, x3, x4, x5, x6, x7) hf
  obtain ⟨h, x0, x1, x2, x3, x4, x5, x6, x7⟩ := s
  replace hk34 : ∀ (h : MH) (x0 : Nat) (x1 : Int32) (x2 : Int32) (x3 : Int32) (x4 : Int32) (x5 : Int32) (x6 : Int32) (x7 : Int32), k34 (h, x0, x1, x2, x3, x4, x5, x6, x7) = some (h', r') → V g yM_symmetry cM_symmetry 11 (some .int) rmM_symmetry (ZQ g rmM_symmetry h' (some (.int r'))) 0 0 h 34 [some (.ref x0), some (.int x1), some (.int x2), some (.int x3), some (.int x4), some (.int x5), some (.int x6), some (.int x7), none, none, none] [] := fun h x0 x1 x2 x3 x4 x5 x6 x7 => hk34 (h, x0, x1, x2, x3, x4, x5, x6, x7)
  replace hf : bM_symmetry_34 k4 n k34 h x0 x1 x2 x3 x4 x5 x6 x7 = some (h', r') := hf
  change V g yM_symmetry cM_symmetry 11 (some .int) rmM_symmetry (ZQ g rmM_symmetry h' (some (.int r'))) 0 0 h 34 [some (.ref x0), some (.int x1), some (.int x2), some (.int x3), some (.int x4), some (.int x5), some (.int x6), some (.int x7), none, none, none] []
  unfold bM_symmetry_34 at hf
  refine v_iload (pc := 34) dM_symmetry_34 rfl ?_
  refine v_iload (pc := 36) dM_symmetry_36 rfl ?_
  refine v_icmp_ge (pc := 38) (tgt := 170) dM_symmetry_38 rfl hf (fun hf => ?_) (fun hf => ?_)
  · refine v_iinc (pc := 170) (v := (x3 + (1:Int32))) (ls' := [some (.ref x0), some (.int x1), some (.int x2), some (.int (x3 + (1:Int32))), some (.int x4), some (.int x5), some (.int x6), some (.int x7), none, none, none]) dM_symmetry_170 rfl rfl (by decide) rfl ?_
    refine v_goto (pc := 173) (tgt := 4) dM_symmetry_173 rfl ?_
    refine v_wk (ls' := [some (.ref x0), some (.int x1), some (.int x2), some (.int (x3 + (1:Int32))), none, none, none, none, none, none, none]) ⟨rfl, rfl, rfl, rfl, trivial⟩ ?_
    exact hk4 h x0 x1 x2 (x3 + (1:Int32)) hf
  refine v_aload_n (i := 0) (pc := 41) dM_symmetry_41 rfl rfl ?_
  refine v_iload_n (i := 1) (pc := 42) dM_symmetry_42 rfl rfl ?_
  refine v_iload (pc := 43) dM_symmetry_43 rfl ?_
  obtain ⟨u4, cu4, hf⟩ := bnd hf
  obtain ⟨h1, i2, e3, hf⟩ := bndp hf
  refine v_M1 (pc := 45) (As := [.int x1, .int x7]) (rest := []) lmM_91 cu4 (sM_endOf e3) ⟨Nat.le_of_ble_eq_true rfl, Nat.le_of_ble_eq_true rfl, Nat.le_of_ble_eq_true rfl, Nat.le_of_ble_eq_true rfl⟩ dM_symmetry_45 rfl rfl (Nat.le_of_ble_eq_true rfl) ?_
  refine v_istore (pc := 48) (ls' := [some (.ref x0), some (.int x1), some (.int x2), some (.int x3), some (.int x4), some (.int x5), some (.int x6), some (.int x7), some (.int i2), none, none]) dM_symmetry_48 (by decide) rfl ?_
  refine v_iload (pc := 50) dM_symmetry_50 rfl ?_
  refine v_ldc (pc := 52) dM_symmetry_52 kiM_95 ?_
  refine v_icmp_eq (pc := 54) (tgt := 74) dM_symmetry_54 rfl hf (fun hf => ?_) (fun hf => ?_)
  · refine v_wk (ls' := [some (.ref x0), some (.int x1), some (.int x2), some (.int x3), some (.int x4), some (.int x5), some (.int x6), some (.int x7), some (.int i2), none, none]) ⟨rfl, rfl, rfl, rfl, rfl, rfl, rfl, rfl, rfl, trivial⟩ ?_
    exact tM_symmetry_74 hk4 hk34 n h1 x0 x1 x2 x3 x4 x5 x6 x7 i2 hf
  refine v_iload (pc := 57) dM_symmetry_57 rfl ?_
  refine v_iload (pc := 59) dM_symmetry_59 rfl ?_
  refine v_isub (pc := 61) dM_symmetry_61 ?_
  refine v_iload (pc := 62) dM_symmetry_62 rfl ?_
  refine v_iload (pc := 64) dM_symmetry_64 rfl ?_
  refine v_isub (pc := 66) dM_symmetry_66 ?_
  refine v_icmp_ne (pc := 67) (tgt := 74) dM_symmetry_67 rfl hf (fun hf => ?_) (fun hf => ?_)
  rotate_left
  · refine v_wk (ls' := [some (.ref x0), some (.int x1), some (.int x2), some (.int x3), some (.int x4), some (.int x5), some (.int x6), some (.int x7), some (.int i2), none, none]) ⟨rfl, rfl, rfl, rfl, rfl, rfl, rfl, rfl, rfl, trivial⟩ ?_
    exact tM_symmetry_74 hk4 hk34 n h1 x0 x1 x2 x3 x4 x5 x6 x7 i2 hf
  refine v_iconst (pc := 70) (1:Int32) dM_symmetry_70 rfl ?_
  refine v_goto (pc := 71) (tgt := 75) dM_symmetry_71 rfl ?_
  refine v_wk (ls' := [some (.ref x0), some (.int x1), some (.int x2), some (.int x3), some (.int x4), some (.int x5), some (.int x6), some (.int x7), some (.int i2), none, none]) ⟨rfl, rfl, rfl, rfl, rfl, rfl, rfl, rfl, rfl, trivial⟩ ?_
  exact tM_symmetry_75 hk4 hk34 n h1 (1:Int32) x0 x1 x2 x3 x4 x5 x6 x7 i2 hf
def bM_symmetry_4 (n : Nat) (k4 : (MH × Nat × Int32 × Int32 × Int32) → Option (MH × Int32)) (h : MH) (x0 : Nat) (x1 : Int32) (x2 : Int32) (x3 : Int32) : Option (MH × Int32) := ((gfR h x0 [12] 3).bind fun a1 => ((rdI h a1 x1).bind fun i2 => (if i2 ≤ x3 then (some (h, x2)) else ((chk h x0 12).bind fun _ => (bnd2 (fM_endOf n h x0 x1 x3) fun h3 i4 => (fM_symmetry_34 k4 n h3 x0 x1 x2 x3 i4 (0:Int32) (-1000000:Int32) (x3 + (1:Int32))))))))
def fM_symmetry_4 (n : Nat) (h : MH) (x0 : Nat) (x1 : Int32) (x2 : Int32) (x3 : Int32) : Option (MH × Int32) := lp (fun n k s => bM_symmetry_4 n k s.1 s.2.1 s.2.2.1 s.2.2.2.1 s.2.2.2.2) n (h, x0, x1, x2, x3)
set_option maxRecDepth 20000 in
set_option maxHeartbeats 4000000 in
theorem tM_symmetry_4 {g : Gh} {h' : MH} {r' : Int32} (n : Nat) (h : MH) (x0 : Nat) (x1 : Int32) (x2 : Int32) (x3 : Int32) (hf : fM_symmetry_4 n h x0 x1 x2 x3 = some (h', r')) : V g yM_symmetry cM_symmetry 11 (some .int) rmM_symmetry (ZQ g rmM_symmetry h' (some (.int r'))) 0 0 h 4 [some (.ref x0), some (.int x1), some (.int x2), some (.int x3), none, none, none, none, none, none, none] [] := by
  unfold fM_symmetry_4 at hf
  refine lp_ind (P := fun s => V g yM_symmetry cM_symmetry 11 (some .int) rmM_symmetry (ZQ g rmM_symmetry h' (some (.int r'))) 0 0 s.1 4 [some (.ref s.2.1), some (.int s.2.2.1), some (.int s.2.2.2.1), some (.int s.2.2.2.2), none, none, none, none, none, none, none] []) (fun n k4 hk4 s hf => ?_) n (h, x0, x1, x2, x3) hf
  obtain ⟨h, x0, x1, x2, x3⟩ := s
  replace hk4 : ∀ (h : MH) (x0 : Nat) (x1 : Int32) (x2 : Int32) (x3 : Int32), k4 (h, x0, x1, x2, x3) = some (h', r') → V g yM_symmetry cM_symmetry 11 (some .int) rmM_symmetry (ZQ g rmM_symmetry h' (some (.int r'))) 0 0 h 4 [some (.ref x0), some (.int x1), some (.int x2), some (.int x3), none, none, none, none, none, none, none] [] := fun h x0 x1 x2 x3 => hk4 (h, x0, x1, x2, x3)
  replace hf : bM_symmetry_4 n k4 h x0 x1 x2 x3 = some (h', r') := hf
  change V g yM_symmetry cM_symmetry 11 (some .int) rmM_symmetry (ZQ g rmM_symmetry h' (some (.int r'))) 0 0 h 4 [some (.ref x0), some (.int x1), some (.int x2), some (.int x3), none, none, none, none, none, none, none] []
  unfold bM_symmetry_4 at hf
  refine v_iload_n (i := 3) (pc := 4) dM_symmetry_4 rfl rfl ?_
  refine v_aload_n (i := 0) (pc := 5) dM_symmetry_5 rfl rfl ?_
  refine v_getR (pc := 6) fgM_17 dM_symmetry_6 hf (fun a1 hf => ?_)
  refine v_iload_n (i := 1) (pc := 9) dM_symmetry_9 rfl rfl ?_
  refine v_iald (pc := 10) dM_symmetry_10 hf (fun i2 hf => ?_)
  refine v_icmp_ge (pc := 11) (tgt := 176) dM_symmetry_11 rfl hf (fun hf => ?_) (fun hf => ?_)
  · refine v_iload_n (i := 2) (pc := 176) dM_symmetry_176 rfl rfl ?_
    exact v_iret (pc := 177) dM_symmetry_177 (by decide) (by decide) hf
  refine v_aload_n (i := 0) (pc := 14) dM_symmetry_14 rfl rfl ?_
  refine v_iload_n (i := 1) (pc := 15) dM_symmetry_15 rfl rfl ?_
  refine v_iload_n (i := 3) (pc := 16) dM_symmetry_16 rfl rfl ?_
  obtain ⟨u6, cu6, hf⟩ := bnd hf
  obtain ⟨h3, i4, e5, hf⟩ := bndp hf
  refine v_M1 (pc := 17) (As := [.int x1, .int x3]) (rest := []) lmM_91 cu6 (sM_endOf e5) ⟨Nat.le_of_ble_eq_true rfl, Nat.le_of_ble_eq_true rfl, Nat.le_of_ble_eq_true rfl, Nat.le_of_ble_eq_true rfl⟩ dM_symmetry_17 rfl rfl (Nat.le_of_ble_eq_true rfl) ?_
  refine v_istore (pc := 20) (ls' := [some (.ref x0), some (.int x1), some (.int x2), some (.int x3), some (.int i4), none, none, none, none, none, none]) dM_symmetry_20 (by decide) rfl ?_
  refine v_iconst (pc := 22) (0:Int32) dM_symmetry_22 rfl ?_
  refine v_istore (pc := 23) (ls' := [some (.ref x0), some (.int x1), some (.int x2), some (.int x3), some (.int i4), some (.int (0:Int32)), none, none, none, none, none]) dM_symmetry_23 (by decide) rfl ?_
  refine v_ldc (pc := 25) dM_symmetry_25 kiM_95 ?_
  refine v_istore (pc := 27) (ls' := [some (.ref x0), some (.int x1), some (.int x2), some (.int x3), some (.int i4), some (.int (0:Int32)), some (.int (-1000000:Int32)), none, none, none, none]) dM_symmetry_27 (by decide) rfl ?_
  refine v_iload_n (i := 3) (pc := 29) dM_symmetry_29 rfl rfl ?_
  refine v_iconst (pc := 30) (1:Int32) dM_symmetry_30 rfl ?_
  refine v_iadd (pc := 31) dM_symmetry_31 ?_
  refine v_istore (pc := 32) (ls' := [some (.ref x0), some (.int x1), some (.int x2), some (.int x3), some (.int i4), some (.int (0:Int32)), some (.int (-1000000:Int32)), some (.int (x3 + (1:Int32))), none, none, none]) dM_symmetry_32 (by decide) rfl ?_
  refine v_wk (ls' := [some (.ref x0), some (.int x1), some (.int x2), some (.int x3), some (.int i4), some (.int (0:Int32)), some (.int (-1000000:Int32)), some (.int (x3 + (1:Int32))), none, none, none]) ⟨rfl, rfl, rfl, rfl, rfl, rfl, rfl, rfl, trivial⟩ ?_
  exact tM_symmetry_34 hk4 n h3 x0 x1 x2 x3 i4 (0:Int32) (-1000000:Int32) (x3 + (1:Int32)) hf
def fM_symmetry (n : Nat) (h : MH) (a_0 : Nat) (i_1 : Int32) : Option (MH × Int32) := (fM_symmetry_4 n h a_0 i_1 (1:Int32) (0:Int32))
set_option maxRecDepth 20000 in
set_option maxHeartbeats 4000000 in
theorem sM_symmetry {g : Gh} {h' : MH} {r' : Int32} {n : Nat} {h : MH} {a_0 : Nat} {i_1 : Int32} (hf : fM_symmetry n h a_0 i_1 = some (h', r')) : Sp g yM_symmetry cM_symmetry 11 (some .int) rmM_symmetry h [.ref a_0, .int i_1] h' (some (.int r')) := by
  refine sp_of (by decide) (Nat.le_of_ble_eq_true rfl) ?_
  change V g yM_symmetry cM_symmetry 11 (some .int) rmM_symmetry (ZQ g rmM_symmetry h' (some (.int r'))) 0 0 h 0 [some (.ref a_0), some (.int i_1), none, none, none, none, none, none, none, none, none] []
  unfold fM_symmetry at hf
  refine v_iconst (pc := 0) (1:Int32) dM_symmetry_0 rfl ?_
  refine v_istore_n (i := 2) (pc := 1) (ls' := [some (.ref a_0), some (.int i_1), some (.int (1:Int32)), none, none, none, none, none, none, none, none]) dM_symmetry_1 rfl (by decide) rfl ?_
  refine v_iconst (pc := 2) (0:Int32) dM_symmetry_2 rfl ?_
  refine v_istore_n (i := 3) (pc := 3) (ls' := [some (.ref a_0), some (.int i_1), some (.int (1:Int32)), some (.int (0:Int32)), none, none, none, none, none, none, none]) dM_symmetry_3 rfl (by decide) rfl ?_
  refine v_wk (ls' := [some (.ref a_0), some (.int i_1), some (.int (1:Int32)), some (.int (0:Int32)), none, none, none, none, none, none, none]) ⟨rfl, rfl, rfl, rfl, trivial⟩ ?_
  exact tM_symmetry_4 n h a_0 i_1 (1:Int32) (0:Int32) hf
abbrev rmM_density : Room := { frames := 1, cells := 0, slots := 0, locals := 23 }
def bM_density_4 (n : Nat) (k4 : (MH × Nat × Int32 × Int32 × Int32) → Option (MH × Int32)) (h : MH) (x0 : Nat) (x1 : Int32) (x2 : Int32) (x3 : Int32) : Option (MH × Int32) := ((gfR h x0 [12] 3).bind fun a1 => ((rdI h a1 x1).bind fun i2 => (if i2 ≤ x3 then (some (h, x2)) else ((chk h x0 12).bind fun _ => (bnd2 (fM_endOf n h x0 x1 x3) fun h3 i4 => (k4 (h3, x0, x1, (x2 * (i4 - x3)), (x3 + (1:Int32)))))))))
def fM_density_4 (n : Nat) (h : MH) (x0 : Nat) (x1 : Int32) (x2 : Int32) (x3 : Int32) : Option (MH × Int32) := lp (fun n k s => bM_density_4 n k s.1 s.2.1 s.2.2.1 s.2.2.2.1 s.2.2.2.2) n (h, x0, x1, x2, x3)
set_option maxRecDepth 20000 in
set_option maxHeartbeats 4000000 in
theorem tM_density_4 {g : Gh} {h' : MH} {r' : Int32} (n : Nat) (h : MH) (x0 : Nat) (x1 : Int32) (x2 : Int32) (x3 : Int32) (hf : fM_density_4 n h x0 x1 x2 x3 = some (h', r')) : V g yM_density cM_density 4 (some .int) rmM_density (ZQ g rmM_density h' (some (.int r'))) 0 0 h 4 [some (.ref x0), some (.int x1), some (.int x2), some (.int x3)] [] := by
  unfold fM_density_4 at hf
  refine lp_ind (P := fun s => V g yM_density cM_density 4 (some .int) rmM_density (ZQ g rmM_density h' (some (.int r'))) 0 0 s.1 4 [some (.ref s.2.1), some (.int s.2.2.1), some (.int s.2.2.2.1), some (.int s.2.2.2.2)] []) (fun n k4 hk4 s hf => ?_) n (h, x0, x1, x2, x3) hf
  obtain ⟨h, x0, x1, x2, x3⟩ := s
  replace hk4 : ∀ (h : MH) (x0 : Nat) (x1 : Int32) (x2 : Int32) (x3 : Int32), k4 (h, x0, x1, x2, x3) = some (h', r') → V g yM_density cM_density 4 (some .int) rmM_density (ZQ g rmM_density h' (some (.int r'))) 0 0 h 4 [some (.ref x0), some (.int x1), some (.int x2), some (.int x3)] [] := fun h x0 x1 x2 x3 => hk4 (h, x0, x1, x2, x3)
  replace hf : bM_density_4 n k4 h x0 x1 x2 x3 = some (h', r') := hf
  change V g yM_density cM_density 4 (some .int) rmM_density (ZQ g rmM_density h' (some (.int r'))) 0 0 h 4 [some (.ref x0), some (.int x1), some (.int x2), some (.int x3)] []
  unfold bM_density_4 at hf
  refine v_iload_n (i := 3) (pc := 4) dM_density_4 rfl rfl ?_
  refine v_aload_n (i := 0) (pc := 5) dM_density_5 rfl rfl ?_
  refine v_getR (pc := 6) fgM_17 dM_density_6 hf (fun a1 hf => ?_)
  refine v_iload_n (i := 1) (pc := 9) dM_density_9 rfl rfl ?_
  refine v_iald (pc := 10) dM_density_10 hf (fun i2 hf => ?_)
  refine v_icmp_ge (pc := 11) (tgt := 31) dM_density_11 rfl hf (fun hf => ?_) (fun hf => ?_)
  · refine v_iload_n (i := 2) (pc := 31) dM_density_31 rfl rfl ?_
    exact v_iret (pc := 32) dM_density_32 (by decide) (by decide) hf
  refine v_iload_n (i := 2) (pc := 14) dM_density_14 rfl rfl ?_
  refine v_aload_n (i := 0) (pc := 15) dM_density_15 rfl rfl ?_
  refine v_iload_n (i := 1) (pc := 16) dM_density_16 rfl rfl ?_
  refine v_iload_n (i := 3) (pc := 17) dM_density_17 rfl rfl ?_
  obtain ⟨u6, cu6, hf⟩ := bnd hf
  obtain ⟨h3, i4, e5, hf⟩ := bndp hf
  refine v_M1 (pc := 18) (As := [.int x1, .int x3]) (rest := [.int x2]) lmM_91 cu6 (sM_endOf e5) ⟨Nat.le_of_ble_eq_true rfl, Nat.le_of_ble_eq_true rfl, Nat.le_of_ble_eq_true rfl, Nat.le_of_ble_eq_true rfl⟩ dM_density_18 rfl rfl (Nat.le_of_ble_eq_true rfl) ?_
  refine v_iload_n (i := 3) (pc := 21) dM_density_21 rfl rfl ?_
  refine v_isub (pc := 22) dM_density_22 ?_
  refine v_imul (pc := 23) dM_density_23 ?_
  refine v_istore_n (i := 2) (pc := 24) (ls' := [some (.ref x0), some (.int x1), some (.int (x2 * (i4 - x3))), some (.int x3)]) dM_density_24 rfl (by decide) rfl ?_
  refine v_iinc (pc := 25) (v := (x3 + (1:Int32))) (ls' := [some (.ref x0), some (.int x1), some (.int (x2 * (i4 - x3))), some (.int (x3 + (1:Int32)))]) dM_density_25 rfl rfl (by decide) rfl ?_
  refine v_goto (pc := 28) (tgt := 4) dM_density_28 rfl ?_
  refine v_wk (ls' := [some (.ref x0), some (.int x1), some (.int (x2 * (i4 - x3))), some (.int (x3 + (1:Int32)))]) ⟨rfl, rfl, rfl, rfl, trivial⟩ ?_
  exact hk4 h3 x0 x1 (x2 * (i4 - x3)) (x3 + (1:Int32)) hf
def fM_density (n : Nat) (h : MH) (a_0 : Nat) (i_1 : Int32) : Option (MH × Int32) := (fM_density_4 n h a_0 i_1 (1:Int32) (0:Int32))
set_option maxRecDepth 20000 in
set_option maxHeartbeats 4000000 in
theorem sM_density {g : Gh} {h' : MH} {r' : Int32} {n : Nat} {h : MH} {a_0 : Nat} {i_1 : Int32} (hf : fM_density n h a_0 i_1 = some (h', r')) : Sp g yM_density cM_density 4 (some .int) rmM_density h [.ref a_0, .int i_1] h' (some (.int r')) := by
  refine sp_of (by decide) (Nat.le_of_ble_eq_true rfl) ?_
  change V g yM_density cM_density 4 (some .int) rmM_density (ZQ g rmM_density h' (some (.int r'))) 0 0 h 0 [some (.ref a_0), some (.int i_1), none, none] []
  unfold fM_density at hf
  refine v_iconst (pc := 0) (1:Int32) dM_density_0 rfl ?_
  refine v_istore_n (i := 2) (pc := 1) (ls' := [some (.ref a_0), some (.int i_1), some (.int (1:Int32)), none]) dM_density_1 rfl (by decide) rfl ?_
  refine v_iconst (pc := 2) (0:Int32) dM_density_2 rfl ?_
  refine v_istore_n (i := 3) (pc := 3) (ls' := [some (.ref a_0), some (.int i_1), some (.int (1:Int32)), some (.int (0:Int32))]) dM_density_3 rfl (by decide) rfl ?_
  refine v_wk (ls' := [some (.ref a_0), some (.int i_1), some (.int (1:Int32)), some (.int (0:Int32))]) ⟨rfl, rfl, rfl, rfl, trivial⟩ ?_
  exact tM_density_4 n h a_0 i_1 (1:Int32) (0:Int32) hf
abbrev rmM_tree : Room := { frames := 2, cells := 0, slots := 0, locals := 53 }
def fM_tree_65 (k32 : (MH × Nat × Int32 × Int32 × Int32 × Int32) → Option (MH × Int32)) (n : Nat) (h : MH) (s0 : Int32) (s1 : Int32) (x0 : Nat) (x1 : Int32) (x2 : Int32) (x4 : Int32) : Option (MH × Int32) := (k32 (h, x0, x1, x2, (s1 + s0), (x4 + (1:Int32))))
set_option maxRecDepth 20000 in
set_option maxHeartbeats 4000000 in
theorem tM_tree_65 {g : Gh} {h' : MH} {r' : Int32} {k32 : (MH × Nat × Int32 × Int32 × Int32 × Int32) → Option (MH × Int32)} (hk32 : ∀ (h : MH) (x0 : Nat) (x1 : Int32) (x2 : Int32) (x3 : Int32) (x4 : Int32), k32 (h, x0, x1, x2, x3, x4) = some (h', r') → V g yM_tree cM_tree 5 (some .int) rmM_tree (ZQ g rmM_tree h' (some (.int r'))) 0 0 h 32 [some (.ref x0), some (.int x1), some (.int x2), some (.int x3), some (.int x4)] []) (n : Nat) (h : MH) (s0 : Int32) (s1 : Int32) (x0 : Nat) (x1 : Int32) (x2 : Int32) (x4 : Int32) (hf : fM_tree_65 k32 n h s0 s1 x0 x1 x2 x4 = some (h', r')) : V g yM_tree cM_tree 5 (some .int) rmM_tree (ZQ g rmM_tree h' (some (.int r'))) 0 0 h 65 [some (.ref x0), some (.int x1), some (.int x2), none, some (.int x4)] [.int s0, .int s1] := by
  unfold fM_tree_65 at hf
  refine v_iadd (pc := 65) dM_tree_65 ?_
  refine v_istore_n (i := 3) (pc := 66) (ls' := [some (.ref x0), some (.int x1), some (.int x2), some (.int (s1 + s0)), some (.int x4)]) dM_tree_66 rfl (by decide) rfl ?_
  refine v_iinc (pc := 67) (v := (x4 + (1:Int32))) (ls' := [some (.ref x0), some (.int x1), some (.int x2), some (.int (s1 + s0)), some (.int (x4 + (1:Int32)))]) dM_tree_67 rfl rfl (by decide) rfl ?_
  refine v_goto (pc := 70) (tgt := 32) dM_tree_70 rfl ?_
  refine v_wk (ls' := [some (.ref x0), some (.int x1), some (.int x2), some (.int (s1 + s0)), some (.int (x4 + (1:Int32)))]) ⟨rfl, rfl, rfl, rfl, rfl, trivial⟩ ?_
  exact hk32 h x0 x1 x2 (s1 + s0) (x4 + (1:Int32)) hf
def bM_tree_32 (n : Nat) (k32 : (MH × Nat × Int32 × Int32 × Int32 × Int32) → Option (MH × Int32)) (h : MH) (x0 : Nat) (x1 : Int32) (x2 : Int32) (x3 : Int32) (x4 : Int32) : Option (MH × Int32) := ((gfR h x0 [12] 3).bind fun a1 => ((rdI h a1 x1).bind fun i2 => (if i2 ≤ x4 then (if x2 = (0:Int32) then ((gfR h x0 [12] 3).bind fun a11 => ((rdI h a11 x1).bind fun i12 => (some (h, i12)))) else (if x2 = (1:Int32) then ((chk h x0 12).bind fun _ => (bnd2 (fM_symmetry n h x0 x1) fun h7 i8 => (some (h7, i8)))) else (if x2 = (2:Int32) then ((chk h x0 12).bind fun _ => (bnd2 (fM_density n h x0 x1) fun h3 i4 => (some (h3, i4)))) else (some (h, x3))))) else ((gfR h x0 [12] 4).bind fun a13 => ((rdI h a13 (((6:Int32) * x1) + x4)).bind fun i14 => (if i14 = (1:Int32) then (fM_tree_65 k32 n h (1:Int32) x3 x0 x1 x2 x4) else (fM_tree_65 k32 n h (0:Int32) x3 x0 x1 x2 x4)))))))
def fM_tree_32 (n : Nat) (h : MH) (x0 : Nat) (x1 : Int32) (x2 : Int32) (x3 : Int32) (x4 : Int32) : Option (MH × Int32) := lp (fun n k s => bM_tree_32 n k s.1 s.2.1 s.2.2.1 s.2.2.2.1 s.2.2.2.2.1 s.2.2.2.2.2) n (h, x0, x1, x2, x3, x4)
set_option maxRecDepth 20000 in
set_option maxHeartbeats 4000000 in
theorem tM_tree_32 {g : Gh} {h' : MH} {r' : Int32} (n : Nat) (h : MH) (x0 : Nat) (x1 : Int32) (x2 : Int32) (x3 : Int32) (x4 : Int32) (hf : fM_tree_32 n h x0 x1 x2 x3 x4 = some (h', r')) : V g yM_tree cM_tree 5 (some .int) rmM_tree (ZQ g rmM_tree h' (some (.int r'))) 0 0 h 32 [some (.ref x0), some (.int x1), some (.int x2), some (.int x3), some (.int x4)] [] := by
  unfold fM_tree_32 at hf
  refine lp_ind (P := fun s => V g yM_tree cM_tree 5 (some .int) rmM_tree (ZQ g rmM_tree h' (some (.int r'))) 0 0 s.1 32 [some (.ref s.2.1), some (.int s.2.2.1), some (.int s.2.2.2.1), some (.int s.2.2.2.2.1), some (.int s.2.2.2.2.2)] []) (fun n k32 hk32 s hf => ?_) n (h, x0, x1, x2, x3, x4) hf
  obtain ⟨h, x0, x1, x2, x3, x4⟩ := s
  replace hk32 : ∀ (h : MH) (x0 : Nat) (x1 : Int32) (x2 : Int32) (x3 : Int32) (x4 : Int32), k32 (h, x0, x1, x2, x3, x4) = some (h', r') → V g yM_tree cM_tree 5 (some .int) rmM_tree (ZQ g rmM_tree h' (some (.int r'))) 0 0 h 32 [some (.ref x0), some (.int x1), some (.int x2), some (.int x3), some (.int x4)] [] := fun h x0 x1 x2 x3 x4 => hk32 (h, x0, x1, x2, x3, x4)
  replace hf : bM_tree_32 n k32 h x0 x1 x2 x3 x4 = some (h', r') := hf
  change V g yM_tree cM_tree 5 (some .int) rmM_tree (ZQ g rmM_tree h' (some (.int r'))) 0 0 h 32 [some (.ref x0), some (.int x1), some (.int x2), some (.int x3), some (.int x4)] []
  unfold bM_tree_32 at hf
  refine v_iload (pc := 32) dM_tree_32 rfl ?_
  refine v_aload_n (i := 0) (pc := 34) dM_tree_34 rfl rfl ?_
  refine v_getR (pc := 35) fgM_17 dM_tree_35 hf (fun a1 hf => ?_)
  refine v_iload_n (i := 1) (pc := 38) dM_tree_38 rfl rfl ?_
  refine v_iald (pc := 39) dM_tree_39 hf (fun i2 hf => ?_)
  refine v_icmp_ge (pc := 40) (tgt := 73) dM_tree_40 rfl hf (fun hf => ?_) (fun hf => ?_)
  rotate_left
  · refine v_iload_n (i := 3) (pc := 43) dM_tree_43 rfl rfl ?_
    refine v_aload_n (i := 0) (pc := 44) dM_tree_44 rfl rfl ?_
    refine v_getR (pc := 45) fgM_21 dM_tree_45 hf (fun a13 hf => ?_)
    refine v_bipush (pc := 48) (6:Int32) dM_tree_48 rfl ?_
    refine v_iload_n (i := 1) (pc := 50) dM_tree_50 rfl rfl ?_
    refine v_imul (pc := 51) dM_tree_51 ?_
    refine v_iload (pc := 52) dM_tree_52 rfl ?_
    refine v_iadd (pc := 54) dM_tree_54 ?_
    refine v_iald (pc := 55) dM_tree_55 hf (fun i14 hf => ?_)
    refine v_iconst (pc := 56) (1:Int32) dM_tree_56 rfl ?_
    refine v_icmp_ne (pc := 57) (tgt := 64) dM_tree_57 rfl hf (fun hf => ?_) (fun hf => ?_)
    rotate_left
    · refine v_iconst (pc := 64) (0:Int32) dM_tree_64 rfl ?_
      refine v_wk (ls' := [some (.ref x0), some (.int x1), some (.int x2), none, some (.int x4)]) ⟨rfl, rfl, rfl, rfl, trivial⟩ ?_
      exact tM_tree_65 hk32 n h (0:Int32) x3 x0 x1 x2 x4 hf
    refine v_iconst (pc := 60) (1:Int32) dM_tree_60 rfl ?_
    refine v_goto (pc := 61) (tgt := 65) dM_tree_61 rfl ?_
    refine v_wk (ls' := [some (.ref x0), some (.int x1), some (.int x2), none, some (.int x4)]) ⟨rfl, rfl, rfl, rfl, trivial⟩ ?_
    exact tM_tree_65 hk32 n h (1:Int32) x3 x0 x1 x2 x4 hf
  refine v_iload_n (i := 2) (pc := 73) dM_tree_73 rfl rfl ?_
  refine v_if_ne (pc := 74) (tgt := 86) dM_tree_74 rfl hf (fun hf => ?_) (fun hf => ?_)
  · refine v_aload_n (i := 0) (pc := 77) dM_tree_77 rfl rfl ?_
    refine v_getR (pc := 78) fgM_17 dM_tree_78 hf (fun a11 hf => ?_)
    refine v_iload_n (i := 1) (pc := 81) dM_tree_81 rfl rfl ?_
    refine v_iald (pc := 82) dM_tree_82 hf (fun i12 hf => ?_)
    refine v_goto (pc := 83) (tgt := 113) dM_tree_83 rfl ?_
    exact v_iret (pc := 113) dM_tree_113 (by decide) (by decide) hf
  refine v_iload_n (i := 2) (pc := 86) dM_tree_86 rfl rfl ?_
  refine v_iconst (pc := 87) (1:Int32) dM_tree_87 rfl ?_
  refine v_icmp_ne (pc := 88) (tgt := 99) dM_tree_88 rfl hf (fun hf => ?_) (fun hf => ?_)
  · refine v_aload_n (i := 0) (pc := 91) dM_tree_91 rfl rfl ?_
    refine v_iload_n (i := 1) (pc := 92) dM_tree_92 rfl rfl ?_
    obtain ⟨u10, cu10, hf⟩ := bnd hf
    obtain ⟨h7, i8, e9, hf⟩ := bndp hf
    refine v_M1 (pc := 93) (As := [.int x1]) (rest := []) lmM_101 cu10 (sM_symmetry e9) ⟨Nat.le_of_ble_eq_true rfl, Nat.le_of_ble_eq_true rfl, Nat.le_of_ble_eq_true rfl, Nat.le_of_ble_eq_true rfl⟩ dM_tree_93 rfl rfl (Nat.le_of_ble_eq_true rfl) ?_
    refine v_goto (pc := 96) (tgt := 113) dM_tree_96 rfl ?_
    exact v_iret (pc := 113) dM_tree_113 (by decide) (by decide) hf
  refine v_iload_n (i := 2) (pc := 99) dM_tree_99 rfl rfl ?_
  refine v_iconst (pc := 100) (2:Int32) dM_tree_100 rfl ?_
  refine v_icmp_ne (pc := 101) (tgt := 112) dM_tree_101 rfl hf (fun hf => ?_) (fun hf => ?_)
  rotate_left
  · refine v_iload_n (i := 3) (pc := 112) dM_tree_112 rfl rfl ?_
    exact v_iret (pc := 113) dM_tree_113 (by decide) (by decide) hf
  refine v_aload_n (i := 0) (pc := 104) dM_tree_104 rfl rfl ?_
  refine v_iload_n (i := 1) (pc := 105) dM_tree_105 rfl rfl ?_
  obtain ⟨u6, cu6, hf⟩ := bnd hf
  obtain ⟨h3, i4, e5, hf⟩ := bndp hf
  refine v_M1 (pc := 106) (As := [.int x1]) (rest := []) lmM_105 cu6 (sM_density e5) ⟨Nat.le_of_ble_eq_true rfl, Nat.le_of_ble_eq_true rfl, Nat.le_of_ble_eq_true rfl, Nat.le_of_ble_eq_true rfl⟩ dM_tree_106 rfl rfl (Nat.le_of_ble_eq_true rfl) ?_
  refine v_goto (pc := 109) (tgt := 113) dM_tree_109 rfl ?_
  exact v_iret (pc := 113) dM_tree_113 (by decide) (by decide) hf
def fM_tree (n : Nat) (h : MH) (a_0 : Nat) (i_1 : Int32) (i_2 : Int32) : Option (MH × Int32) := ((pf h a_0 [12] 0 (.int (0:Int32))).bind fun h1 => (bnd2 (fM_isTree h1 i_1) fun h2 i3 => (if i3 = (0:Int32) then (some (h2, (-1000001:Int32))) else (bnd2 (fM_in h2 i_2.toInt64 (0:Int64) (3:Int64)) fun h4 i5 => (if i5 = (0:Int32) then (some (h4, (-1000001:Int32))) else (fM_tree_32 n h4 a_0 i_1 i_2 (0:Int32) (0:Int32)))))))
set_option maxRecDepth 20000 in
set_option maxHeartbeats 4000000 in
theorem sM_tree {g : Gh} {h' : MH} {r' : Int32} {n : Nat} {h : MH} {a_0 : Nat} {i_1 : Int32} {i_2 : Int32} (hf : fM_tree n h a_0 i_1 i_2 = some (h', r')) : Sp g yM_tree cM_tree 5 (some .int) rmM_tree h [.ref a_0, .int i_1, .int i_2] h' (some (.int r')) := by
  refine sp_of (by decide) (Nat.le_of_ble_eq_true rfl) ?_
  change V g yM_tree cM_tree 5 (some .int) rmM_tree (ZQ g rmM_tree h' (some (.int r'))) 0 0 h 0 [some (.ref a_0), some (.int i_1), some (.int i_2), none, none] []
  unfold fM_tree at hf
  refine v_aload_n (i := 0) (pc := 0) dM_tree_0 rfl rfl ?_
  refine v_iconst (pc := 1) (0:Int32) dM_tree_1 rfl ?_
  refine v_put (pc := 2) fpM_1 (fun _ => ⟨rfl, rfl⟩) dM_tree_2 hf (fun h1 hf => ?_)
  refine v_iload_n (i := 1) (pc := 5) dM_tree_5 rfl rfl ?_
  obtain ⟨h2, i3, e7, hf⟩ := bndp hf
  refine v_S1 (pc := 6) (As := [.int i_1]) (rest := []) lsM_96 (sM_isTree e7) ⟨Nat.le_of_ble_eq_true rfl, Nat.le_of_ble_eq_true rfl, Nat.le_of_ble_eq_true rfl, Nat.le_of_ble_eq_true rfl⟩ dM_tree_6 rfl rfl (Nat.le_of_ble_eq_true rfl) ?_
  refine v_if_eq (pc := 9) (tgt := 24) dM_tree_9 rfl hf (fun hf => ?_) (fun hf => ?_)
  · refine v_ldc (pc := 24) dM_tree_24 kiM_90 ?_
    exact v_iret (pc := 26) dM_tree_26 (by decide) (by decide) hf
  refine v_iload_n (i := 2) (pc := 12) dM_tree_12 rfl rfl ?_
  refine v_i2l (pc := 13) dM_tree_13 ?_
  refine v_lconst (pc := 14) (0:Int64) dM_tree_14 rfl ?_
  refine v_ldc2 (pc := 15) dM_tree_15 klM_99 ?_
  obtain ⟨h4, i5, e6, hf⟩ := bndp hf
  refine v_S1 (pc := 18) (As := [.long i_2.toInt64, .long (0:Int64), .long (3:Int64)]) (rest := []) lsM_71 (sM_in e6) ⟨Nat.le_of_ble_eq_true rfl, Nat.le_of_ble_eq_true rfl, Nat.le_of_ble_eq_true rfl, Nat.le_of_ble_eq_true rfl⟩ dM_tree_18 rfl rfl (Nat.le_of_ble_eq_true rfl) ?_
  refine v_if_ne (pc := 21) (tgt := 27) dM_tree_21 rfl hf (fun hf => ?_) (fun hf => ?_)
  · refine v_ldc (pc := 24) dM_tree_24 kiM_90 ?_
    exact v_iret (pc := 26) dM_tree_26 (by decide) (by decide) hf
  refine v_iconst (pc := 27) (0:Int32) dM_tree_27 rfl ?_
  refine v_istore_n (i := 3) (pc := 28) (ls' := [some (.ref a_0), some (.int i_1), some (.int i_2), some (.int (0:Int32)), none]) dM_tree_28 rfl (by decide) rfl ?_
  refine v_iconst (pc := 29) (0:Int32) dM_tree_29 rfl ?_
  refine v_istore (pc := 30) (ls' := [some (.ref a_0), some (.int i_1), some (.int i_2), some (.int (0:Int32)), some (.int (0:Int32))]) dM_tree_30 (by decide) rfl ?_
  refine v_wk (ls' := [some (.ref a_0), some (.int i_1), some (.int i_2), some (.int (0:Int32)), some (.int (0:Int32))]) ⟨rfl, rfl, rfl, rfl, rfl, trivial⟩ ?_
  exact tM_tree_32 n h4 a_0 i_1 i_2 (0:Int32) (0:Int32) hf
abbrev rmM_level : Room := { frames := 2, cells := 0, slots := 0, locals := 45 }
def fM_level (h : MH) (a_0 : Nat) (i_1 : Int32) (i_2 : Int32) : Option (MH × Int32) := ((pf h a_0 [12] 0 (.int (0:Int32))).bind fun h1 => (bnd2 (fM_isTree h1 i_1) fun h2 i3 => (if i3 = (0:Int32) then (some (h2, (-1000001:Int32))) else ((gfR h2 a_0 [12] 3).bind fun a4 => ((rdI h2 a4 i_1).bind fun i5 => (bnd2 (fM_in h2 i_2.toInt64 (0:Int64) (i5 - (1:Int32)).toInt64) fun h6 i7 => (if i7 = (0:Int32) then (some (h6, (-1000000:Int32))) else ((gfR h6 a_0 [12] 4).bind fun a8 => ((rdI h6 a8 (((6:Int32) * i_1) + i_2)).bind fun i9 => (some (h6, i9)))))))))))
set_option maxRecDepth 20000 in
set_option maxHeartbeats 4000000 in
theorem sM_level {g : Gh} {h' : MH} {r' : Int32} {h : MH} {a_0 : Nat} {i_1 : Int32} {i_2 : Int32} (hf : fM_level h a_0 i_1 i_2 = some (h', r')) : Sp g yM_level cM_level 3 (some .int) rmM_level h [.ref a_0, .int i_1, .int i_2] h' (some (.int r')) := by
  refine sp_of (by decide) (Nat.le_of_ble_eq_true rfl) ?_
  change V g yM_level cM_level 3 (some .int) rmM_level (ZQ g rmM_level h' (some (.int r'))) 0 0 h 0 [some (.ref a_0), some (.int i_1), some (.int i_2)] []
  unfold fM_level at hf
  refine v_aload_n (i := 0) (pc := 0) dM_level_0 rfl rfl ?_
  refine v_iconst (pc := 1) (0:Int32) dM_level_1 rfl ?_
  refine v_put (pc := 2) fpM_1 (fun _ => ⟨rfl, rfl⟩) dM_level_2 hf (fun h1 hf => ?_)
  refine v_iload_n (i := 1) (pc := 5) dM_level_5 rfl rfl ?_
  obtain ⟨h2, i3, e11, hf⟩ := bndp hf
  refine v_S1 (pc := 6) (As := [.int i_1]) (rest := []) lsM_96 (sM_isTree e11) ⟨Nat.le_of_ble_eq_true rfl, Nat.le_of_ble_eq_true rfl, Nat.le_of_ble_eq_true rfl, Nat.le_of_ble_eq_true rfl⟩ dM_level_6 rfl rfl (Nat.le_of_ble_eq_true rfl) ?_
  refine v_if_ne (pc := 9) (tgt := 17) dM_level_9 rfl hf (fun hf => ?_) (fun hf => ?_)
  · refine v_ldc (pc := 12) dM_level_12 kiM_90 ?_
    refine v_goto (pc := 14) (tgt := 51) dM_level_14 rfl ?_
    exact v_iret (pc := 51) dM_level_51 (by decide) (by decide) hf
  refine v_iload_n (i := 2) (pc := 17) dM_level_17 rfl rfl ?_
  refine v_i2l (pc := 18) dM_level_18 ?_
  refine v_lconst (pc := 19) (0:Int64) dM_level_19 rfl ?_
  refine v_aload_n (i := 0) (pc := 20) dM_level_20 rfl rfl ?_
  refine v_getR (pc := 21) fgM_17 dM_level_21 hf (fun a4 hf => ?_)
  refine v_iload_n (i := 1) (pc := 24) dM_level_24 rfl rfl ?_
  refine v_iald (pc := 25) dM_level_25 hf (fun i5 hf => ?_)
  refine v_iconst (pc := 26) (1:Int32) dM_level_26 rfl ?_
  refine v_isub (pc := 27) dM_level_27 ?_
  refine v_i2l (pc := 28) dM_level_28 ?_
  obtain ⟨h6, i7, e10, hf⟩ := bndp hf
  refine v_S1 (pc := 29) (As := [.long i_2.toInt64, .long (0:Int64), .long (i5 - (1:Int32)).toInt64]) (rest := []) lsM_71 (sM_in e10) ⟨Nat.le_of_ble_eq_true rfl, Nat.le_of_ble_eq_true rfl, Nat.le_of_ble_eq_true rfl, Nat.le_of_ble_eq_true rfl⟩ dM_level_29 rfl rfl (Nat.le_of_ble_eq_true rfl) ?_
  refine v_if_eq (pc := 32) (tgt := 49) dM_level_32 rfl hf (fun hf => ?_) (fun hf => ?_)
  · refine v_ldc (pc := 49) dM_level_49 kiM_95 ?_
    exact v_iret (pc := 51) dM_level_51 (by decide) (by decide) hf
  refine v_aload_n (i := 0) (pc := 35) dM_level_35 rfl rfl ?_
  refine v_getR (pc := 36) fgM_21 dM_level_36 hf (fun a8 hf => ?_)
  refine v_bipush (pc := 39) (6:Int32) dM_level_39 rfl ?_
  refine v_iload_n (i := 1) (pc := 41) dM_level_41 rfl rfl ?_
  refine v_imul (pc := 42) dM_level_42 ?_
  refine v_iload_n (i := 2) (pc := 43) dM_level_43 rfl rfl ?_
  refine v_iadd (pc := 44) dM_level_44 ?_
  refine v_iald (pc := 45) dM_level_45 hf (fun i9 hf => ?_)
  refine v_goto (pc := 46) (tgt := 51) dM_level_46 rfl ?_
  exact v_iret (pc := 51) dM_level_51 (by decide) (by decide) hf
abbrev rmM_isGreater : Room := { frames := 0, cells := 0, slots := 0, locals := 0 }
def fM_isGreater_44 (k3 : (MH × Nat × Int32 × Int32 × Int32 × Int32 × Int32) → Option (MH × Int32)) (n : Nat) (h : MH) (s0 : Int32) (x0 : Nat) (x1 : Int32) (x2 : Int32) (x3 : Int32) (x4 : Int32) (x5 : Int32) : Option (MH × Int32) := ((gfR h x0 [12] 4).bind fun a1 => ((rdI h a1 (((6:Int32) * x1) + x5)).bind fun i2 => (if i2 = s0 then (k3 (h, x0, x1, x2, x3, x4, (x5 + (1:Int32)))) else ((gfR h x0 [12] 4).bind fun a3 => ((rdI h a3 (((6:Int32) * x1) + x5)).bind fun i4 => (if i4 ≤ s0 then (retZ h (0:Int32)) else (retZ h (1:Int32))))))))
set_option maxRecDepth 20000 in
set_option maxHeartbeats 4000000 in
theorem tM_isGreater_44 {g : Gh} {h' : MH} {r' : Int32} {k3 : (MH × Nat × Int32 × Int32 × Int32 × Int32 × Int32) → Option (MH × Int32)} (hk3 : ∀ (h : MH) (x0 : Nat) (x1 : Int32) (x2 : Int32) (x3 : Int32) (x4 : Int32) (x5 : Int32), k3 (h, x0, x1, x2, x3, x4, x5) = some (h', r') → V g yM_isGreater cM_isGreater 7 (some .boolean) rmM_isGreater (ZQ g rmM_isGreater h' (some (.int r'))) 0 0 h 3 [some (.ref x0), some (.int x1), some (.int x2), some (.int x3), some (.int x4), some (.int x5), none] []) (n : Nat) (h : MH) (s0 : Int32) (x0 : Nat) (x1 : Int32) (x2 : Int32) (x3 : Int32) (x4 : Int32) (x5 : Int32) (hf : fM_isGreater_44 k3 n h s0 x0 x1 x2 x3 x4 x5 = some (h', r')) : V g yM_isGreater cM_isGreater 7 (some .boolean) rmM_isGreater (ZQ g rmM_isGreater h' (some (.int r'))) 0 0 h 44 [some (.ref x0), some (.int x1), some (.int x2), some (.int x3), some (.int x4), some (.int x5), none] [.int s0] := by
  unfold fM_isGreater_44 at hf
  refine v_istore (pc := 44) (ls' := [some (.ref x0), some (.int x1), some (.int x2), some (.int x3), some (.int x4), some (.int x5), some (.int s0)]) dM_isGreater_44 (by decide) rfl ?_
  refine v_aload_n (i := 0) (pc := 46) dM_isGreater_46 rfl rfl ?_
  refine v_getR (pc := 47) fgM_21 dM_isGreater_47 hf (fun a1 hf => ?_)
  refine v_bipush (pc := 50) (6:Int32) dM_isGreater_50 rfl ?_
  refine v_iload_n (i := 1) (pc := 52) dM_isGreater_52 rfl rfl ?_
  refine v_imul (pc := 53) dM_isGreater_53 ?_
  refine v_iload (pc := 54) dM_isGreater_54 rfl ?_
  refine v_iadd (pc := 56) dM_isGreater_56 ?_
  refine v_iald (pc := 57) dM_isGreater_57 hf (fun i2 hf => ?_)
  refine v_iload (pc := 58) dM_isGreater_58 rfl ?_
  refine v_icmp_eq (pc := 60) (tgt := 86) dM_isGreater_60 rfl hf (fun hf => ?_) (fun hf => ?_)
  · refine v_iinc (pc := 86) (v := (x5 + (1:Int32))) (ls' := [some (.ref x0), some (.int x1), some (.int x2), some (.int x3), some (.int x4), some (.int (x5 + (1:Int32))), some (.int s0)]) dM_isGreater_86 rfl rfl (by decide) rfl ?_
    refine v_goto (pc := 89) (tgt := 3) dM_isGreater_89 rfl ?_
    refine v_wk (ls' := [some (.ref x0), some (.int x1), some (.int x2), some (.int x3), some (.int x4), some (.int (x5 + (1:Int32))), none]) ⟨rfl, rfl, rfl, rfl, rfl, rfl, trivial⟩ ?_
    exact hk3 h x0 x1 x2 x3 x4 (x5 + (1:Int32)) hf
  refine v_aload_n (i := 0) (pc := 63) dM_isGreater_63 rfl rfl ?_
  refine v_getR (pc := 64) fgM_21 dM_isGreater_64 hf (fun a3 hf => ?_)
  refine v_bipush (pc := 67) (6:Int32) dM_isGreater_67 rfl ?_
  refine v_iload_n (i := 1) (pc := 69) dM_isGreater_69 rfl rfl ?_
  refine v_imul (pc := 70) dM_isGreater_70 ?_
  refine v_iload (pc := 71) dM_isGreater_71 rfl ?_
  refine v_iadd (pc := 73) dM_isGreater_73 ?_
  refine v_iald (pc := 74) dM_isGreater_74 hf (fun i4 hf => ?_)
  refine v_iload (pc := 75) dM_isGreater_75 rfl ?_
  refine v_icmp_le (pc := 77) (tgt := 84) dM_isGreater_77 rfl hf (fun hf => ?_) (fun hf => ?_)
  · refine v_iconst (pc := 84) (0:Int32) dM_isGreater_84 rfl ?_
    exact v_zret (pc := 85) dM_isGreater_85 (by decide) (by decide) hf
  refine v_iconst (pc := 80) (1:Int32) dM_isGreater_80 rfl ?_
  refine v_goto (pc := 81) (tgt := 85) dM_isGreater_81 rfl ?_
  exact v_zret (pc := 85) dM_isGreater_85 (by decide) (by decide) hf
def bM_isGreater_3 (n : Nat) (k3 : (MH × Nat × Int32 × Int32 × Int32 × Int32 × Int32) → Option (MH × Int32)) (h : MH) (x0 : Nat) (x1 : Int32) (x2 : Int32) (x3 : Int32) (x4 : Int32) (x5 : Int32) : Option (MH × Int32) := (if x3 ≤ x5 then (retZ h (0:Int32)) else ((gfR h x0 [12] 3).bind fun a1 => ((rdI h a1 x4).bind fun i2 => (if i2 ≤ (x5 - x2) then (fM_isGreater_44 k3 n h (0:Int32) x0 x1 x2 x3 x4 x5) else ((gfR h x0 [12] 4).bind fun a3 => ((rdI h a3 ((((6:Int32) * x4) + x5) - x2)).bind fun i4 => (fM_isGreater_44 k3 n h (i4 + (1:Int32)) x0 x1 x2 x3 x4 x5)))))))
def fM_isGreater_3 (n : Nat) (h : MH) (x0 : Nat) (x1 : Int32) (x2 : Int32) (x3 : Int32) (x4 : Int32) (x5 : Int32) : Option (MH × Int32) := lp (fun n k s => bM_isGreater_3 n k s.1 s.2.1 s.2.2.1 s.2.2.2.1 s.2.2.2.2.1 s.2.2.2.2.2.1 s.2.2.2.2.2.2) n (h, x0, x1, x2, x3, x4, x5)
set_option maxRecDepth 20000 in
set_option maxHeartbeats 4000000 in
theorem tM_isGreater_3 {g : Gh} {h' : MH} {r' : Int32} (n : Nat) (h : MH) (x0 : Nat) (x1 : Int32) (x2 : Int32) (x3 : Int32) (x4 : Int32) (x5 : Int32) (hf : fM_isGreater_3 n h x0 x1 x2 x3 x4 x5 = some (h', r')) : V g yM_isGreater cM_isGreater 7 (some .boolean) rmM_isGreater (ZQ g rmM_isGreater h' (some (.int r'))) 0 0 h 3 [some (.ref x0), some (.int x1), some (.int x2), some (.int x3), some (.int x4), some (.int x5), none] [] := by
  unfold fM_isGreater_3 at hf
  refine lp_ind (P := fun s => V g yM_isGreater cM_isGreater 7 (some .boolean) rmM_isGreater (ZQ g rmM_isGreater h' (some (.int r'))) 0 0 s.1 3 [some (.ref s.2.1), some (.int s.2.2.1), some (.int s.2.2.2.1), some (.int s.2.2.2.2.1), some (.int s.2.2.2.2.2.1), some (.int s.2.2.2.2.2.2), none] []) (fun n k3 hk3 s hf => ?_) n (h, x0, x1, x2, x3, x4, x5) hf
  obtain ⟨h, x0, x1, x2, x3, x4, x5⟩ := s
  replace hk3 : ∀ (h : MH) (x0 : Nat) (x1 : Int32) (x2 : Int32) (x3 : Int32) (x4 : Int32) (x5 : Int32), k3 (h, x0, x1, x2, x3, x4, x5) = some (h', r') → V g yM_isGreater cM_isGreater 7 (some .boolean) rmM_isGreater (ZQ g rmM_isGreater h' (some (.int r'))) 0 0 h 3 [some (.ref x0), some (.int x1), some (.int x2), some (.int x3), some (.int x4), some (.int x5), none] [] := fun h x0 x1 x2 x3 x4 x5 => hk3 (h, x0, x1, x2, x3, x4, x5)
  replace hf : bM_isGreater_3 n k3 h x0 x1 x2 x3 x4 x5 = some (h', r') := hf
  change V g yM_isGreater cM_isGreater 7 (some .boolean) rmM_isGreater (ZQ g rmM_isGreater h' (some (.int r'))) 0 0 h 3 [some (.ref x0), some (.int x1), some (.int x2), some (.int x3), some (.int x4), some (.int x5), none] []
  unfold bM_isGreater_3 at hf
  refine v_iload (pc := 3) dM_isGreater_3 rfl ?_
  refine v_iload_n (i := 3) (pc := 5) dM_isGreater_5 rfl rfl ?_
  refine v_icmp_ge (pc := 6) (tgt := 92) dM_isGreater_6 rfl hf (fun hf => ?_) (fun hf => ?_)
  · refine v_iconst (pc := 92) (0:Int32) dM_isGreater_92 rfl ?_
    exact v_zret (pc := 93) dM_isGreater_93 (by decide) (by decide) hf
  refine v_iload (pc := 9) dM_isGreater_9 rfl ?_
  refine v_iload_n (i := 2) (pc := 11) dM_isGreater_11 rfl rfl ?_
  refine v_isub (pc := 12) dM_isGreater_12 ?_
  refine v_aload_n (i := 0) (pc := 13) dM_isGreater_13 rfl rfl ?_
  refine v_getR (pc := 14) fgM_17 dM_isGreater_14 hf (fun a1 hf => ?_)
  refine v_iload (pc := 17) dM_isGreater_17 rfl ?_
  refine v_iald (pc := 19) dM_isGreater_19 hf (fun i2 hf => ?_)
  refine v_icmp_ge (pc := 20) (tgt := 43) dM_isGreater_20 rfl hf (fun hf => ?_) (fun hf => ?_)
  · refine v_iconst (pc := 43) (0:Int32) dM_isGreater_43 rfl ?_
    refine v_wk (ls' := [some (.ref x0), some (.int x1), some (.int x2), some (.int x3), some (.int x4), some (.int x5), none]) ⟨rfl, rfl, rfl, rfl, rfl, rfl, trivial⟩ ?_
    exact tM_isGreater_44 hk3 n h (0:Int32) x0 x1 x2 x3 x4 x5 hf
  refine v_aload_n (i := 0) (pc := 23) dM_isGreater_23 rfl rfl ?_
  refine v_getR (pc := 24) fgM_21 dM_isGreater_24 hf (fun a3 hf => ?_)
  refine v_bipush (pc := 27) (6:Int32) dM_isGreater_27 rfl ?_
  refine v_iload (pc := 29) dM_isGreater_29 rfl ?_
  refine v_imul (pc := 31) dM_isGreater_31 ?_
  refine v_iload (pc := 32) dM_isGreater_32 rfl ?_
  refine v_iadd (pc := 34) dM_isGreater_34 ?_
  refine v_iload_n (i := 2) (pc := 35) dM_isGreater_35 rfl rfl ?_
  refine v_isub (pc := 36) dM_isGreater_36 ?_
  refine v_iald (pc := 37) dM_isGreater_37 hf (fun i4 hf => ?_)
  refine v_iconst (pc := 38) (1:Int32) dM_isGreater_38 rfl ?_
  refine v_iadd (pc := 39) dM_isGreater_39 ?_
  refine v_goto (pc := 40) (tgt := 44) dM_isGreater_40 rfl ?_
  refine v_wk (ls' := [some (.ref x0), some (.int x1), some (.int x2), some (.int x3), some (.int x4), some (.int x5), none]) ⟨rfl, rfl, rfl, rfl, rfl, rfl, trivial⟩ ?_
  exact tM_isGreater_44 hk3 n h (i4 + (1:Int32)) x0 x1 x2 x3 x4 x5 hf
def fM_isGreater (n : Nat) (h : MH) (a_0 : Nat) (i_1 : Int32) (i_2 : Int32) (i_3 : Int32) (i_4 : Int32) : Option (MH × Int32) := (fM_isGreater_3 n h a_0 i_1 i_2 i_3 i_4 i_2)
set_option maxRecDepth 20000 in
set_option maxHeartbeats 4000000 in
theorem sM_isGreater {g : Gh} {h' : MH} {r' : Int32} {n : Nat} {h : MH} {a_0 : Nat} {i_1 : Int32} {i_2 : Int32} {i_3 : Int32} {i_4 : Int32} (hf : fM_isGreater n h a_0 i_1 i_2 i_3 i_4 = some (h', r')) : Sp g yM_isGreater cM_isGreater 7 (some .boolean) rmM_isGreater h [.ref a_0, .int i_1, .int i_2, .int i_3, .int i_4] h' (some (.int r')) := by
  refine sp_of (by decide) (Nat.le_of_ble_eq_true rfl) ?_
  change V g yM_isGreater cM_isGreater 7 (some .boolean) rmM_isGreater (ZQ g rmM_isGreater h' (some (.int r'))) 0 0 h 0 [some (.ref a_0), some (.int i_1), some (.int i_2), some (.int i_3), some (.int i_4), none, none] []
  unfold fM_isGreater at hf
  refine v_iload_n (i := 2) (pc := 0) dM_isGreater_0 rfl rfl ?_
  refine v_istore (pc := 1) (ls' := [some (.ref a_0), some (.int i_1), some (.int i_2), some (.int i_3), some (.int i_4), some (.int i_2), none]) dM_isGreater_1 (by decide) rfl ?_
  refine v_wk (ls' := [some (.ref a_0), some (.int i_1), some (.int i_2), some (.int i_3), some (.int i_4), some (.int i_2), none]) ⟨rfl, rfl, rfl, rfl, rfl, rfl, trivial⟩ ?_
  exact tM_isGreater_3 n h a_0 i_1 i_2 i_3 i_4 i_2 hf
abbrev rmM_hang : Room := { frames := 2, cells := 0, slots := 0, locals := 45 }
def fM_hang_100 (k51 : (MH × Nat × Int32 × Int32 × Int32 × Int32 × Int32) → Option (MH × Int32)) (n : Nat) (h : MH) (s0 : Int32) (x0 : Nat) (x1 : Int32) (x2 : Int32) (x3 : Int32) (x5 : Int32) : Option (MH × Int32) := (k51 (h, x0, x1, x2, x3, s0, x5))
set_option maxRecDepth 20000 in
set_option maxHeartbeats 4000000 in
theorem tM_hang_100 {g : Gh} {h' : MH} {r' : Int32} {k51 : (MH × Nat × Int32 × Int32 × Int32 × Int32 × Int32) → Option (MH × Int32)} (hk51 : ∀ (h : MH) (x0 : Nat) (x1 : Int32) (x2 : Int32) (x3 : Int32) (x4 : Int32) (x5 : Int32), k51 (h, x0, x1, x2, x3, x4, x5) = some (h', r') → V g yM_hang cM_hang 10 (some .int) rmM_hang (ZQ g rmM_hang h' (some (.int r'))) 0 0 h 51 [some (.ref x0), some (.int x1), some (.int x2), some (.int x3), some (.int x4), some (.int x5), none, none, none, none] []) (n : Nat) (h : MH) (s0 : Int32) (x0 : Nat) (x1 : Int32) (x2 : Int32) (x3 : Int32) (x5 : Int32) (hf : fM_hang_100 k51 n h s0 x0 x1 x2 x3 x5 = some (h', r')) : V g yM_hang cM_hang 10 (some .int) rmM_hang (ZQ g rmM_hang h' (some (.int r'))) 0 0 h 100 [some (.ref x0), some (.int x1), some (.int x2), some (.int x3), none, some (.int x5), none, none, none, none] [.int s0] := by
  unfold fM_hang_100 at hf
  refine v_istore (pc := 100) (ls' := [some (.ref x0), some (.int x1), some (.int x2), some (.int x3), some (.int s0), some (.int x5), none, none, none, none]) dM_hang_100 (by decide) rfl ?_
  refine v_goto (pc := 102) (tgt := 51) dM_hang_102 rfl ?_
  refine v_wk (ls' := [some (.ref x0), some (.int x1), some (.int x2), some (.int x3), some (.int s0), some (.int x5), none, none, none, none]) ⟨rfl, rfl, rfl, rfl, rfl, rfl, trivial⟩ ?_
  exact hk51 h x0 x1 x2 x3 s0 x5 hf
def fM_hang_195 (k108 : (MH × Nat × Int32 × Int32 × Int32 × Int32 × Int32) → Option (MH × Int32)) (n : Nat) (h : MH) (s0 : Int32) (s1 : Int32) (s2 : Nat) (x0 : Nat) (x1 : Int32) (x2 : Int32) (x3 : Int32) (x4 : Int32) (x6 : Int32) : Option (MH × Int32) := ((wrI h s2 s1 s0).bind fun h1 => (k108 (h1, x0, x1, x2, x3, x4, (x6 + (1:Int32)))))
set_option maxRecDepth 20000 in
set_option maxHeartbeats 4000000 in
theorem tM_hang_195 {g : Gh} {h' : MH} {r' : Int32} {k108 : (MH × Nat × Int32 × Int32 × Int32 × Int32 × Int32) → Option (MH × Int32)} (hk108 : ∀ (h : MH) (x0 : Nat) (x1 : Int32) (x2 : Int32) (x3 : Int32) (x4 : Int32) (x6 : Int32), k108 (h, x0, x1, x2, x3, x4, x6) = some (h', r') → V g yM_hang cM_hang 10 (some .int) rmM_hang (ZQ g rmM_hang h' (some (.int r'))) 0 0 h 108 [some (.ref x0), some (.int x1), some (.int x2), some (.int x3), some (.int x4), none, some (.int x6), none, none, none] []) (n : Nat) (h : MH) (s0 : Int32) (s1 : Int32) (s2 : Nat) (x0 : Nat) (x1 : Int32) (x2 : Int32) (x3 : Int32) (x4 : Int32) (x6 : Int32) (hf : fM_hang_195 k108 n h s0 s1 s2 x0 x1 x2 x3 x4 x6 = some (h', r')) : V g yM_hang cM_hang 10 (some .int) rmM_hang (ZQ g rmM_hang h' (some (.int r'))) 0 0 h 195 [some (.ref x0), some (.int x1), some (.int x2), some (.int x3), some (.int x4), none, some (.int x6), none, none, none] [.int s0, .int s1, .ref s2] := by
  unfold fM_hang_195 at hf
  refine v_iast (pc := 195) dM_hang_195 hf (fun h1 hf => ?_)
  refine v_iinc (pc := 196) (v := (x6 + (1:Int32))) (ls' := [some (.ref x0), some (.int x1), some (.int x2), some (.int x3), some (.int x4), none, some (.int (x6 + (1:Int32))), none, none, none]) dM_hang_196 rfl rfl (by decide) rfl ?_
  refine v_goto (pc := 199) (tgt := 108) dM_hang_199 rfl ?_
  refine v_wk (ls' := [some (.ref x0), some (.int x1), some (.int x2), some (.int x3), some (.int x4), none, some (.int (x6 + (1:Int32))), none, none, none]) ⟨rfl, rfl, rfl, rfl, rfl, rfl, trivial⟩ ?_
  exact hk108 h1 x0 x1 x2 x3 x4 (x6 + (1:Int32)) hf
def fM_hang_276 (k209 : (MH × Nat × Int32 × Int32 × Int32) → Option (MH × Int32)) (k237 : (MH × Nat × Int32 × Int32 × Int32 × Int32 × Int32) → Option (MH × Int32)) (n : Nat) (h : MH) (s0 : Int32) (x0 : Nat) (x3 : Int32) (x6 : Int32) (x7 : Int32) (x9 : Int32) : Option (MH × Int32) := (k237 (h, x0, x3, x6, x7, s0, (x9 + (1:Int32))))
set_option maxRecDepth 20000 in
set_option maxHeartbeats 4000000 in
theorem tM_hang_276 {g : Gh} {h' : MH} {r' : Int32} {k209 : (MH × Nat × Int32 × Int32 × Int32) → Option (MH × Int32)} {k237 : (MH × Nat × Int32 × Int32 × Int32 × Int32 × Int32) → Option (MH × Int32)} (hk209 : ∀ (h : MH) (x0 : Nat) (x3 : Int32) (x6 : Int32) (x7 : Int32), k209 (h, x0, x3, x6, x7) = some (h', r') → V g yM_hang cM_hang 10 (some .int) rmM_hang (ZQ g rmM_hang h' (some (.int r'))) 0 0 h 209 [some (.ref x0), none, none, some (.int x3), none, none, some (.int x6), some (.int x7), none, none] []) (hk237 : ∀ (h : MH) (x0 : Nat) (x3 : Int32) (x6 : Int32) (x7 : Int32) (x8 : Int32) (x9 : Int32), k237 (h, x0, x3, x6, x7, x8, x9) = some (h', r') → V g yM_hang cM_hang 10 (some .int) rmM_hang (ZQ g rmM_hang h' (some (.int r'))) 0 0 h 237 [some (.ref x0), none, none, some (.int x3), none, none, some (.int x6), some (.int x7), some (.int x8), some (.int x9)] []) (n : Nat) (h : MH) (s0 : Int32) (x0 : Nat) (x3 : Int32) (x6 : Int32) (x7 : Int32) (x9 : Int32) (hf : fM_hang_276 k209 k237 n h s0 x0 x3 x6 x7 x9 = some (h', r')) : V g yM_hang cM_hang 10 (some .int) rmM_hang (ZQ g rmM_hang h' (some (.int r'))) 0 0 h 276 [some (.ref x0), none, none, some (.int x3), none, none, some (.int x6), some (.int x7), none, some (.int x9)] [.int s0] := by
  unfold fM_hang_276 at hf
  refine v_istore (pc := 276) (ls' := [some (.ref x0), none, none, some (.int x3), none, none, some (.int x6), some (.int x7), some (.int s0), some (.int x9)]) dM_hang_276 (by decide) rfl ?_
  refine v_iinc (pc := 278) (v := (x9 + (1:Int32))) (ls' := [some (.ref x0), none, none, some (.int x3), none, none, some (.int x6), some (.int x7), some (.int s0), some (.int (x9 + (1:Int32)))]) dM_hang_278 rfl rfl (by decide) rfl ?_
  refine v_goto (pc := 281) (tgt := 237) dM_hang_281 rfl ?_
  refine v_wk (ls' := [some (.ref x0), none, none, some (.int x3), none, none, some (.int x6), some (.int x7), some (.int s0), some (.int (x9 + (1:Int32)))]) ⟨rfl, rfl, rfl, rfl, rfl, rfl, trivial⟩ ?_
  exact hk237 h x0 x3 x6 x7 s0 (x9 + (1:Int32)) hf
def fM_hang_275 (k209 : (MH × Nat × Int32 × Int32 × Int32) → Option (MH × Int32)) (k237 : (MH × Nat × Int32 × Int32 × Int32 × Int32 × Int32) → Option (MH × Int32)) (n : Nat) (h : MH) (x0 : Nat) (x3 : Int32) (x6 : Int32) (x7 : Int32) (x9 : Int32) : Option (MH × Int32) := (fM_hang_276 k209 k237 n h (0:Int32) x0 x3 x6 x7 x9)
set_option maxRecDepth 20000 in
set_option maxHeartbeats 4000000 in
theorem tM_hang_275 {g : Gh} {h' : MH} {r' : Int32} {k209 : (MH × Nat × Int32 × Int32 × Int32) → Option (MH × Int32)} {k237 : (MH × Nat × Int32 × Int32 × Int32 × Int32 × Int32) → Option (MH × Int32)} (hk209 : ∀ (h : MH) (x0 : Nat) (x3 : Int32) (x6 : Int32) (x7 : Int32), k209 (h, x0, x3, x6, x7) = some (h', r') → V g yM_hang cM_hang 10 (some .int) rmM_hang (ZQ g rmM_hang h' (some (.int r'))) 0 0 h 209 [some (.ref x0), none, none, some (.int x3), none, none, some (.int x6), some (.int x7), none, none] []) (hk237 : ∀ (h : MH) (x0 : Nat) (x3 : Int32) (x6 : Int32) (x7 : Int32) (x8 : Int32) (x9 : Int32), k237 (h, x0, x3, x6, x7, x8, x9) = some (h', r') → V g yM_hang cM_hang 10 (some .int) rmM_hang (ZQ g rmM_hang h' (some (.int r'))) 0 0 h 237 [some (.ref x0), none, none, some (.int x3), none, none, some (.int x6), some (.int x7), some (.int x8), some (.int x9)] []) (n : Nat) (h : MH) (x0 : Nat) (x3 : Int32) (x6 : Int32) (x7 : Int32) (x9 : Int32) (hf : fM_hang_275 k209 k237 n h x0 x3 x6 x7 x9 = some (h', r')) : V g yM_hang cM_hang 10 (some .int) rmM_hang (ZQ g rmM_hang h' (some (.int r'))) 0 0 h 275 [some (.ref x0), none, none, some (.int x3), none, none, some (.int x6), some (.int x7), none, some (.int x9)] [] := by
  unfold fM_hang_275 at hf
  refine v_iconst (pc := 275) (0:Int32) dM_hang_275 rfl ?_
  refine v_wk (ls' := [some (.ref x0), none, none, some (.int x3), none, none, some (.int x6), some (.int x7), none, some (.int x9)]) ⟨rfl, rfl, rfl, rfl, rfl, trivial⟩ ?_
  exact tM_hang_276 hk209 hk237 n h (0:Int32) x0 x3 x6 x7 x9 hf
def fM_hang_296 (k209 : (MH × Nat × Int32 × Int32 × Int32) → Option (MH × Int32)) (n : Nat) (h : MH) (s0 : Int32) (x0 : Nat) (x3 : Int32) (x7 : Int32) : Option (MH × Int32) := (k209 (h, x0, x3, s0, (x7 + (1:Int32))))
set_option maxRecDepth 20000 in
set_option maxHeartbeats 4000000 in
theorem tM_hang_296 {g : Gh} {h' : MH} {r' : Int32} {k209 : (MH × Nat × Int32 × Int32 × Int32) → Option (MH × Int32)} (hk209 : ∀ (h : MH) (x0 : Nat) (x3 : Int32) (x6 : Int32) (x7 : Int32), k209 (h, x0, x3, x6, x7) = some (h', r') → V g yM_hang cM_hang 10 (some .int) rmM_hang (ZQ g rmM_hang h' (some (.int r'))) 0 0 h 209 [some (.ref x0), none, none, some (.int x3), none, none, some (.int x6), some (.int x7), none, none] []) (n : Nat) (h : MH) (s0 : Int32) (x0 : Nat) (x3 : Int32) (x7 : Int32) (hf : fM_hang_296 k209 n h s0 x0 x3 x7 = some (h', r')) : V g yM_hang cM_hang 10 (some .int) rmM_hang (ZQ g rmM_hang h' (some (.int r'))) 0 0 h 296 [some (.ref x0), none, none, some (.int x3), none, none, none, some (.int x7), none, none] [.int s0] := by
  unfold fM_hang_296 at hf
  refine v_istore (pc := 296) (ls' := [some (.ref x0), none, none, some (.int x3), none, none, some (.int s0), some (.int x7), none, none]) dM_hang_296 (by decide) rfl ?_
  refine v_iinc (pc := 298) (v := (x7 + (1:Int32))) (ls' := [some (.ref x0), none, none, some (.int x3), none, none, some (.int s0), some (.int (x7 + (1:Int32))), none, none]) dM_hang_298 rfl rfl (by decide) rfl ?_
  refine v_goto (pc := 301) (tgt := 209) dM_hang_301 rfl ?_
  refine v_wk (ls' := [some (.ref x0), none, none, some (.int x3), none, none, some (.int s0), some (.int (x7 + (1:Int32))), none, none]) ⟨rfl, rfl, rfl, rfl, trivial⟩ ?_
  exact hk209 h x0 x3 s0 (x7 + (1:Int32)) hf
def bM_hang_237 (k209 : (MH × Nat × Int32 × Int32 × Int32) → Option (MH × Int32)) (n : Nat) (k237 : (MH × Nat × Int32 × Int32 × Int32 × Int32 × Int32) → Option (MH × Int32)) (h : MH) (x0 : Nat) (x3 : Int32) (x6 : Int32) (x7 : Int32) (x8 : Int32) (x9 : Int32) : Option (MH × Int32) := (if x3 ≤ x9 then (if x8 = (0:Int32) then (fM_hang_296 k209 n h x6 x0 x3 x7) else (fM_hang_296 k209 n h x7 x0 x3 x7)) else (if x8 = (0:Int32) then (fM_hang_275 k209 k237 n h x0 x3 x6 x7 x9) else ((gfR h x0 [12] 4).bind fun a1 => ((rdI h a1 (((6:Int32) * x7) + x9)).bind fun i2 => ((gfR h x0 [12] 5).bind fun a3 => ((rdI h a3 x9).bind fun i4 => (if i2 = i4 then (fM_hang_276 k209 k237 n h (1:Int32) x0 x3 x6 x7 x9) else (fM_hang_275 k209 k237 n h x0 x3 x6 x7 x9))))))))
def fM_hang_237 (k209 : (MH × Nat × Int32 × Int32 × Int32) → Option (MH × Int32)) (n : Nat) (h : MH) (x0 : Nat) (x3 : Int32) (x6 : Int32) (x7 : Int32) (x8 : Int32) (x9 : Int32) : Option (MH × Int32) := lp (fun n k s => bM_hang_237 k209 n k s.1 s.2.1 s.2.2.1 s.2.2.2.1 s.2.2.2.2.1 s.2.2.2.2.2.1 s.2.2.2.2.2.2) n (h, x0, x3, x6, x7, x8, x9)
set_option maxRecDepth 20000 in
set_option maxHeartbeats 4000000 in
theorem tM_hang_237 {g : Gh} {h' : MH} {r' : Int32} {k209 : (MH × Nat × Int32 × Int32 × Int32) → Option (MH × Int32)} (hk209 : ∀ (h : MH) (x0 : Nat) (x3 : Int32) (x6 : Int32) (x7 : Int32), k209 (h, x0, x3, x6, x7) = some (h', r') → V g yM_hang cM_hang 10 (some .int) rmM_hang (ZQ g rmM_hang h' (some (.int r'))) 0 0 h 209 [some (.ref x0), none, none, some (.int x3), none, none, some (.int x6), some (.int x7), none, none] []) (n : Nat) (h : MH) (x0 : Nat) (x3 : Int32) (x6 : Int32) (x7 : Int32) (x8 : Int32) (x9 : Int32) (hf : fM_hang_237 k209 n h x0 x3 x6 x7 x8 x9 = some (h', r')) : V g yM_hang cM_hang 10 (some .int) rmM_hang (ZQ g rmM_hang h' (some (.int r'))) 0 0 h 237 [some (.ref x0), none, none, some (.int x3), none, none, some (.int x6), some (.int x7), some (.int x8), some (.int x9)] [] := by
  unfold fM_hang_237 at hf
  refine lp_ind (P := fun s => V g yM_hang cM_hang 10 (some .int) rmM_hang (ZQ g rmM_hang h' (some (.int r'))) 0 0 s.1 237 [some (.ref s.2.1), none, none, some (.int s.2.2.1), none, none, some (.int s.2.2.2.1), some (.int s.2.2.2.2.1), some (.int s.2.2.2.2.2.1), some (.int s.2.2.2.2.2.2)] []) (fun n k237 hk237 s hf => ?_) n (h, x0, x3, x6, x7, x8, x9) hf
  obtain ⟨h, x0, x3, x6, x7, x8, x9⟩ := s
  replace hk237 : ∀ (h : MH) (x0 : Nat) (x3 : Int32) (x6 : Int32) (x7 : Int32) (x8 : Int32) (x9 : Int32), k237 (h, x0, x3, x6, x7, x8, x9) = some (h', r') → V g yM_hang cM_hang 10 (some .int) rmM_hang (ZQ g rmM_hang h' (some (.int r'))) 0 0 h 237 [some (.ref x0), none, none, some (.int x3), none, none, some (.int x6), some (.int x7), some (.int x8), some (.int x9)] [] := fun h x0 x3 x6 x7 x8 x9 => hk237 (h, x0, x3, x6, x7, x8, x9)
  replace hf : bM_hang_237 k209 n k237 h x0 x3 x6 x7 x8 x9 = some (h', r') := hf
  change V g yM_hang cM_hang 10 (some .int) rmM_hang (ZQ g rmM_hang h' (some (.int r'))) 0 0 h 237 [some (.ref x0), none, none, some (.int x3), none, none, some (.int x6), some (.int x7), some (.int x8), some (.int x9)] []
  unfold bM_hang_237 at hf
  refine v_iload (pc := 237) dM_hang_237 rfl ?_
  refine v_iload_n (i := 3) (pc := 239) dM_hang_239 rfl rfl ?_
  refine v_icmp_ge (pc := 240) (tgt := 284) dM_hang_240 rfl hf (fun hf => ?_) (fun hf => ?_)
  · refine v_iload (pc := 284) dM_hang_284 rfl ?_
    refine v_if_eq (pc := 286) (tgt := 294) dM_hang_286 rfl hf (fun hf => ?_) (fun hf => ?_)
    · refine v_iload (pc := 294) dM_hang_294 rfl ?_
      refine v_wk (ls' := [some (.ref x0), none, none, some (.int x3), none, none, none, some (.int x7), none, none]) ⟨rfl, rfl, rfl, trivial⟩ ?_
      exact tM_hang_296 hk209 n h x6 x0 x3 x7 hf
    refine v_iload (pc := 289) dM_hang_289 rfl ?_
    refine v_goto (pc := 291) (tgt := 296) dM_hang_291 rfl ?_
    refine v_wk (ls' := [some (.ref x0), none, none, some (.int x3), none, none, none, some (.int x7), none, none]) ⟨rfl, rfl, rfl, trivial⟩ ?_
    exact tM_hang_296 hk209 n h x7 x0 x3 x7 hf
  refine v_iload (pc := 243) dM_hang_243 rfl ?_
  refine v_if_eq (pc := 245) (tgt := 275) dM_hang_245 rfl hf (fun hf => ?_) (fun hf => ?_)
  · refine v_wk (ls' := [some (.ref x0), none, none, some (.int x3), none, none, some (.int x6), some (.int x7), none, some (.int x9)]) ⟨rfl, rfl, rfl, rfl, rfl, trivial⟩ ?_
    exact tM_hang_275 hk209 hk237 n h x0 x3 x6 x7 x9 hf
  refine v_aload_n (i := 0) (pc := 248) dM_hang_248 rfl rfl ?_
  refine v_getR (pc := 249) fgM_21 dM_hang_249 hf (fun a1 hf => ?_)
  refine v_bipush (pc := 252) (6:Int32) dM_hang_252 rfl ?_
  refine v_iload (pc := 254) dM_hang_254 rfl ?_
  refine v_imul (pc := 256) dM_hang_256 ?_
  refine v_iload (pc := 257) dM_hang_257 rfl ?_
  refine v_iadd (pc := 259) dM_hang_259 ?_
  refine v_iald (pc := 260) dM_hang_260 hf (fun i2 hf => ?_)
  refine v_aload_n (i := 0) (pc := 261) dM_hang_261 rfl rfl ?_
  refine v_getR (pc := 262) fgM_24 dM_hang_262 hf (fun a3 hf => ?_)
  refine v_iload (pc := 265) dM_hang_265 rfl ?_
  refine v_iald (pc := 267) dM_hang_267 hf (fun i4 hf => ?_)
  refine v_icmp_ne (pc := 268) (tgt := 275) dM_hang_268 rfl hf (fun hf => ?_) (fun hf => ?_)
  rotate_left
  · refine v_wk (ls' := [some (.ref x0), none, none, some (.int x3), none, none, some (.int x6), some (.int x7), none, some (.int x9)]) ⟨rfl, rfl, rfl, rfl, rfl, trivial⟩ ?_
    exact tM_hang_275 hk209 hk237 n h x0 x3 x6 x7 x9 hf
  refine v_iconst (pc := 271) (1:Int32) dM_hang_271 rfl ?_
  refine v_goto (pc := 272) (tgt := 276) dM_hang_272 rfl ?_
  refine v_wk (ls' := [some (.ref x0), none, none, some (.int x3), none, none, some (.int x6), some (.int x7), none, some (.int x9)]) ⟨rfl, rfl, rfl, rfl, rfl, trivial⟩ ?_
  exact tM_hang_276 hk209 hk237 n h (1:Int32) x0 x3 x6 x7 x9 hf
def fM_hang_232 (k209 : (MH × Nat × Int32 × Int32 × Int32) → Option (MH × Int32)) (n : Nat) (h : MH) (s0 : Int32) (x0 : Nat) (x3 : Int32) (x6 : Int32) (x7 : Int32) : Option (MH × Int32) := (fM_hang_237 k209 n h x0 x3 x6 x7 s0 (0:Int32))
set_option maxRecDepth 20000 in
set_option maxHeartbeats 4000000 in
theorem tM_hang_232 {g : Gh} {h' : MH} {r' : Int32} {k209 : (MH × Nat × Int32 × Int32 × Int32) → Option (MH × Int32)} (hk209 : ∀ (h : MH) (x0 : Nat) (x3 : Int32) (x6 : Int32) (x7 : Int32), k209 (h, x0, x3, x6, x7) = some (h', r') → V g yM_hang cM_hang 10 (some .int) rmM_hang (ZQ g rmM_hang h' (some (.int r'))) 0 0 h 209 [some (.ref x0), none, none, some (.int x3), none, none, some (.int x6), some (.int x7), none, none] []) (n : Nat) (h : MH) (s0 : Int32) (x0 : Nat) (x3 : Int32) (x6 : Int32) (x7 : Int32) (hf : fM_hang_232 k209 n h s0 x0 x3 x6 x7 = some (h', r')) : V g yM_hang cM_hang 10 (some .int) rmM_hang (ZQ g rmM_hang h' (some (.int r'))) 0 0 h 232 [some (.ref x0), none, none, some (.int x3), none, none, some (.int x6), some (.int x7), none, none] [.int s0] := by
  unfold fM_hang_232 at hf
  refine v_istore (pc := 232) (ls' := [some (.ref x0), none, none, some (.int x3), none, none, some (.int x6), some (.int x7), some (.int s0), none]) dM_hang_232 (by decide) rfl ?_
  refine v_iconst (pc := 234) (0:Int32) dM_hang_234 rfl ?_
  refine v_istore (pc := 235) (ls' := [some (.ref x0), none, none, some (.int x3), none, none, some (.int x6), some (.int x7), some (.int s0), some (.int (0:Int32))]) dM_hang_235 (by decide) rfl ?_
  refine v_wk (ls' := [some (.ref x0), none, none, some (.int x3), none, none, some (.int x6), some (.int x7), some (.int s0), some (.int (0:Int32))]) ⟨rfl, rfl, rfl, rfl, rfl, rfl, trivial⟩ ?_
  exact tM_hang_237 hk209 n h x0 x3 x6 x7 s0 (0:Int32) hf
def bM_hang_209 (n : Nat) (k209 : (MH × Nat × Int32 × Int32 × Int32) → Option (MH × Int32)) (h : MH) (x0 : Nat) (x3 : Int32) (x6 : Int32) (x7 : Int32) : Option (MH × Int32) := (if (37:Int32) ≤ x7 then (some (h, x6)) else ((gfR h x0 [12] 3).bind fun a1 => ((rdI h a1 x7).bind fun i2 => (if i2 = x3 then (fM_hang_232 k209 n h (1:Int32) x0 x3 x6 x7) else (fM_hang_232 k209 n h (0:Int32) x0 x3 x6 x7)))))
def fM_hang_209 (n : Nat) (h : MH) (x0 : Nat) (x3 : Int32) (x6 : Int32) (x7 : Int32) : Option (MH × Int32) := lp (fun n k s => bM_hang_209 n k s.1 s.2.1 s.2.2.1 s.2.2.2.1 s.2.2.2.2) n (h, x0, x3, x6, x7)
set_option maxRecDepth 20000 in
set_option maxHeartbeats 4000000 in
theorem tM_hang_209 {g : Gh} {h' : MH} {r' : Int32} (n : Nat) (h : MH) (x0 : Nat) (x3 : Int32) (x6 : Int32) (x7 : Int32) (hf : fM_hang_209 n h x0 x3 x6 x7 = some (h', r')) : V g yM_hang cM_hang 10 (some .int) rmM_hang (ZQ g rmM_hang h' (some (.int r'))) 0 0 h 209 [some (.ref x0), none, none, some (.int x3), none, none, some (.int x6), some (.int x7), none, none] [] := by
  unfold fM_hang_209 at hf
  refine lp_ind (P := fun s => V g yM_hang cM_hang 10 (some .int) rmM_hang (ZQ g rmM_hang h' (some (.int r'))) 0 0 s.1 209 [some (.ref s.2.1), none, none, some (.int s.2.2.1), none, none, some (.int s.2.2.2.1), some (.int s.2.2.2.2), none, none] []) (fun n k209 hk209 s hf => ?_) n (h, x0, x3, x6, x7) hf
  obtain ⟨h, x0, x3, x6, x7⟩ := s
  replace hk209 : ∀ (h : MH) (x0 : Nat) (x3 : Int32) (x6 : Int32) (x7 : Int32), k209 (h, x0, x3, x6, x7) = some (h', r') → V g yM_hang cM_hang 10 (some .int) rmM_hang (ZQ g rmM_hang h' (some (.int r'))) 0 0 h 209 [some (.ref x0), none, none, some (.int x3), none, none, some (.int x6), some (.int x7), none, none] [] := fun h x0 x3 x6 x7 => hk209 (h, x0, x3, x6, x7)
  replace hf : bM_hang_209 n k209 h x0 x3 x6 x7 = some (h', r') := hf
  change V g yM_hang cM_hang 10 (some .int) rmM_hang (ZQ g rmM_hang h' (some (.int r'))) 0 0 h 209 [some (.ref x0), none, none, some (.int x3), none, none, some (.int x6), some (.int x7), none, none] []
  unfold bM_hang_209 at hf
  refine v_iload (pc := 209) dM_hang_209 rfl ?_
  refine v_bipush (pc := 211) (37:Int32) dM_hang_211 rfl ?_
  refine v_icmp_ge (pc := 213) (tgt := 304) dM_hang_213 rfl hf (fun hf => ?_) (fun hf => ?_)
  · refine v_iload (pc := 304) dM_hang_304 rfl ?_
    exact v_iret (pc := 306) dM_hang_306 (by decide) (by decide) hf
  refine v_aload_n (i := 0) (pc := 216) dM_hang_216 rfl rfl ?_
  refine v_getR (pc := 217) fgM_17 dM_hang_217 hf (fun a1 hf => ?_)
  refine v_iload (pc := 220) dM_hang_220 rfl ?_
  refine v_iald (pc := 222) dM_hang_222 hf (fun i2 hf => ?_)
  refine v_iload_n (i := 3) (pc := 223) dM_hang_223 rfl rfl ?_
  refine v_icmp_ne (pc := 224) (tgt := 231) dM_hang_224 rfl hf (fun hf => ?_) (fun hf => ?_)
  rotate_left
  · refine v_iconst (pc := 231) (0:Int32) dM_hang_231 rfl ?_
    refine v_wk (ls' := [some (.ref x0), none, none, some (.int x3), none, none, some (.int x6), some (.int x7), none, none]) ⟨rfl, rfl, rfl, rfl, trivial⟩ ?_
    exact tM_hang_232 hk209 n h (0:Int32) x0 x3 x6 x7 hf
  refine v_iconst (pc := 227) (1:Int32) dM_hang_227 rfl ?_
  refine v_goto (pc := 228) (tgt := 232) dM_hang_228 rfl ?_
  refine v_wk (ls' := [some (.ref x0), none, none, some (.int x3), none, none, some (.int x6), some (.int x7), none, none]) ⟨rfl, rfl, rfl, rfl, trivial⟩ ?_
  exact tM_hang_232 hk209 n h (1:Int32) x0 x3 x6 x7 hf
def bM_hang_108 (n : Nat) (k108 : (MH × Nat × Int32 × Int32 × Int32 × Int32 × Int32) → Option (MH × Int32)) (h : MH) (x0 : Nat) (x1 : Int32) (x2 : Int32) (x3 : Int32) (x4 : Int32) (x6 : Int32) : Option (MH × Int32) := (if x3 ≤ x6 then (fM_hang_209 n h x0 x3 (-1000000:Int32) (0:Int32)) else ((gfR h x0 [12] 5).bind fun a1 => (if x4 ≤ x6 then ((gfR h x0 [12] 3).bind fun a2 => ((rdI h a2 x2).bind fun i3 => (if (x4 + i3) ≤ x6 then ((gfR h x0 [12] 4).bind fun a4 => ((gfR h x0 [12] 3).bind fun a5 => ((rdI h a5 x2).bind fun i6 => ((rdI h a4 ((((6:Int32) * x1) + x6) - i6)).bind fun i7 => (fM_hang_195 k108 n h i7 x6 a1 x0 x1 x2 x3 x4 x6))))) else ((gfR h x0 [12] 4).bind fun a8 => ((rdI h a8 ((((6:Int32) * x2) + x6) - x4)).bind fun i9 => (fM_hang_195 k108 n h (i9 + (1:Int32)) x6 a1 x0 x1 x2 x3 x4 x6)))))) else ((gfR h x0 [12] 4).bind fun a10 => ((rdI h a10 (((6:Int32) * x1) + x6)).bind fun i11 => (fM_hang_195 k108 n h i11 x6 a1 x0 x1 x2 x3 x4 x6))))))
def fM_hang_108 (n : Nat) (h : MH) (x0 : Nat) (x1 : Int32) (x2 : Int32) (x3 : Int32) (x4 : Int32) (x6 : Int32) : Option (MH × Int32) := lp (fun n k s => bM_hang_108 n k s.1 s.2.1 s.2.2.1 s.2.2.2.1 s.2.2.2.2.1 s.2.2.2.2.2.1 s.2.2.2.2.2.2) n (h, x0, x1, x2, x3, x4, x6)
set_option maxRecDepth 20000 in
set_option maxHeartbeats 4000000 in
theorem tM_hang_108 {g : Gh} {h' : MH} {r' : Int32} (n : Nat) (h : MH) (x0 : Nat) (x1 : Int32) (x2 : Int32) (x3 : Int32) (x4 : Int32) (x6 : Int32) (hf : fM_hang_108 n h x0 x1 x2 x3 x4 x6 = some (h', r')) : V g yM_hang cM_hang 10 (some .int) rmM_hang (ZQ g rmM_hang h' (some (.int r'))) 0 0 h 108 [some (.ref x0), some (.int x1), some (.int x2), some (.int x3), some (.int x4), none, some (.int x6), none, none, none] [] := by
  unfold fM_hang_108 at hf
  refine lp_ind (P := fun s => V g yM_hang cM_hang 10 (some .int) rmM_hang (ZQ g rmM_hang h' (some (.int r'))) 0 0 s.1 108 [some (.ref s.2.1), some (.int s.2.2.1), some (.int s.2.2.2.1), some (.int s.2.2.2.2.1), some (.int s.2.2.2.2.2.1), none, some (.int s.2.2.2.2.2.2), none, none, none] []) (fun n k108 hk108 s hf => ?_) n (h, x0, x1, x2, x3, x4, x6) hf
  obtain ⟨h, x0, x1, x2, x3, x4, x6⟩ := s
  replace hk108 : ∀ (h : MH) (x0 : Nat) (x1 : Int32) (x2 : Int32) (x3 : Int32) (x4 : Int32) (x6 : Int32), k108 (h, x0, x1, x2, x3, x4, x6) = some (h', r') → V g yM_hang cM_hang 10 (some .int) rmM_hang (ZQ g rmM_hang h' (some (.int r'))) 0 0 h 108 [some (.ref x0), some (.int x1), some (.int x2), some (.int x3), some (.int x4), none, some (.int x6), none, none, none] [] := fun h x0 x1 x2 x3 x4 x6 => hk108 (h, x0, x1, x2, x3, x4, x6)
  replace hf : bM_hang_108 n k108 h x0 x1 x2 x3 x4 x6 = some (h', r') := hf
  change V g yM_hang cM_hang 10 (some .int) rmM_hang (ZQ g rmM_hang h' (some (.int r'))) 0 0 h 108 [some (.ref x0), some (.int x1), some (.int x2), some (.int x3), some (.int x4), none, some (.int x6), none, none, none] []
  unfold bM_hang_108 at hf
  refine v_iload (pc := 108) dM_hang_108 rfl ?_
  refine v_iload_n (i := 3) (pc := 110) dM_hang_110 rfl rfl ?_
  refine v_icmp_ge (pc := 111) (tgt := 202) dM_hang_111 rfl hf (fun hf => ?_) (fun hf => ?_)
  · refine v_ldc (pc := 202) dM_hang_202 kiM_95 ?_
    refine v_istore (pc := 204) (ls' := [some (.ref x0), some (.int x1), some (.int x2), some (.int x3), some (.int x4), none, some (.int (-1000000:Int32)), none, none, none]) dM_hang_204 (by decide) rfl ?_
    refine v_iconst (pc := 206) (0:Int32) dM_hang_206 rfl ?_
    refine v_istore (pc := 207) (ls' := [some (.ref x0), some (.int x1), some (.int x2), some (.int x3), some (.int x4), none, some (.int (-1000000:Int32)), some (.int (0:Int32)), none, none]) dM_hang_207 (by decide) rfl ?_
    refine v_wk (ls' := [some (.ref x0), none, none, some (.int x3), none, none, some (.int (-1000000:Int32)), some (.int (0:Int32)), none, none]) ⟨rfl, rfl, rfl, rfl, trivial⟩ ?_
    exact tM_hang_209 n h x0 x3 (-1000000:Int32) (0:Int32) hf
  refine v_aload_n (i := 0) (pc := 114) dM_hang_114 rfl rfl ?_
  refine v_getR (pc := 115) fgM_24 dM_hang_115 hf (fun a1 hf => ?_)
  refine v_iload (pc := 118) dM_hang_118 rfl ?_
  refine v_iload (pc := 120) dM_hang_120 rfl ?_
  refine v_iload (pc := 122) dM_hang_122 rfl ?_
  refine v_icmp_ge (pc := 124) (tgt := 142) dM_hang_124 rfl hf (fun hf => ?_) (fun hf => ?_)
  rotate_left
  · refine v_aload_n (i := 0) (pc := 127) dM_hang_127 rfl rfl ?_
    refine v_getR (pc := 128) fgM_21 dM_hang_128 hf (fun a10 hf => ?_)
    refine v_bipush (pc := 131) (6:Int32) dM_hang_131 rfl ?_
    refine v_iload_n (i := 1) (pc := 133) dM_hang_133 rfl rfl ?_
    refine v_imul (pc := 134) dM_hang_134 ?_
    refine v_iload (pc := 135) dM_hang_135 rfl ?_
    refine v_iadd (pc := 137) dM_hang_137 ?_
    refine v_iald (pc := 138) dM_hang_138 hf (fun i11 hf => ?_)
    refine v_goto (pc := 139) (tgt := 195) dM_hang_139 rfl ?_
    refine v_wk (ls' := [some (.ref x0), some (.int x1), some (.int x2), some (.int x3), some (.int x4), none, some (.int x6), none, none, none]) ⟨rfl, rfl, rfl, rfl, rfl, rfl, trivial⟩ ?_
    exact tM_hang_195 hk108 n h i11 x6 a1 x0 x1 x2 x3 x4 x6 hf
  refine v_iload (pc := 142) dM_hang_142 rfl ?_
  refine v_iload (pc := 144) dM_hang_144 rfl ?_
  refine v_aload_n (i := 0) (pc := 146) dM_hang_146 rfl rfl ?_
  refine v_getR (pc := 147) fgM_17 dM_hang_147 hf (fun a2 hf => ?_)
  refine v_iload_n (i := 2) (pc := 150) dM_hang_150 rfl rfl ?_
  refine v_iald (pc := 151) dM_hang_151 hf (fun i3 hf => ?_)
  refine v_iadd (pc := 152) dM_hang_152 ?_
  refine v_icmp_ge (pc := 153) (tgt := 176) dM_hang_153 rfl hf (fun hf => ?_) (fun hf => ?_)
  · refine v_aload_n (i := 0) (pc := 176) dM_hang_176 rfl rfl ?_
    refine v_getR (pc := 177) fgM_21 dM_hang_177 hf (fun a4 hf => ?_)
    refine v_bipush (pc := 180) (6:Int32) dM_hang_180 rfl ?_
    refine v_iload_n (i := 1) (pc := 182) dM_hang_182 rfl rfl ?_
    refine v_imul (pc := 183) dM_hang_183 ?_
    refine v_iload (pc := 184) dM_hang_184 rfl ?_
    refine v_iadd (pc := 186) dM_hang_186 ?_
    refine v_aload_n (i := 0) (pc := 187) dM_hang_187 rfl rfl ?_
    refine v_getR (pc := 188) fgM_17 dM_hang_188 hf (fun a5 hf => ?_)
    refine v_iload_n (i := 2) (pc := 191) dM_hang_191 rfl rfl ?_
    refine v_iald (pc := 192) dM_hang_192 hf (fun i6 hf => ?_)
    refine v_isub (pc := 193) dM_hang_193 ?_
    refine v_iald (pc := 194) dM_hang_194 hf (fun i7 hf => ?_)
    refine v_wk (ls' := [some (.ref x0), some (.int x1), some (.int x2), some (.int x3), some (.int x4), none, some (.int x6), none, none, none]) ⟨rfl, rfl, rfl, rfl, rfl, rfl, trivial⟩ ?_
    exact tM_hang_195 hk108 n h i7 x6 a1 x0 x1 x2 x3 x4 x6 hf
  refine v_aload_n (i := 0) (pc := 156) dM_hang_156 rfl rfl ?_
  refine v_getR (pc := 157) fgM_21 dM_hang_157 hf (fun a8 hf => ?_)
  refine v_bipush (pc := 160) (6:Int32) dM_hang_160 rfl ?_
  refine v_iload_n (i := 2) (pc := 162) dM_hang_162 rfl rfl ?_
  refine v_imul (pc := 163) dM_hang_163 ?_
  refine v_iload (pc := 164) dM_hang_164 rfl ?_
  refine v_iadd (pc := 166) dM_hang_166 ?_
  refine v_iload (pc := 167) dM_hang_167 rfl ?_
  refine v_isub (pc := 169) dM_hang_169 ?_
  refine v_iald (pc := 170) dM_hang_170 hf (fun i9 hf => ?_)
  refine v_iconst (pc := 171) (1:Int32) dM_hang_171 rfl ?_
  refine v_iadd (pc := 172) dM_hang_172 ?_
  refine v_goto (pc := 173) (tgt := 195) dM_hang_173 rfl ?_
  refine v_wk (ls' := [some (.ref x0), some (.int x1), some (.int x2), some (.int x3), some (.int x4), none, some (.int x6), none, none, none]) ⟨rfl, rfl, rfl, rfl, rfl, rfl, trivial⟩ ?_
  exact tM_hang_195 hk108 n h (i9 + (1:Int32)) x6 a1 x0 x1 x2 x3 x4 x6 hf
def fM_hang_105 (n : Nat) (h : MH) (x0 : Nat) (x1 : Int32) (x2 : Int32) (x3 : Int32) (x4 : Int32) : Option (MH × Int32) := (fM_hang_108 n h x0 x1 x2 x3 x4 (0:Int32))
set_option maxRecDepth 20000 in
set_option maxHeartbeats 4000000 in
theorem tM_hang_105 {g : Gh} {h' : MH} {r' : Int32} (n : Nat) (h : MH) (x0 : Nat) (x1 : Int32) (x2 : Int32) (x3 : Int32) (x4 : Int32) (hf : fM_hang_105 n h x0 x1 x2 x3 x4 = some (h', r')) : V g yM_hang cM_hang 10 (some .int) rmM_hang (ZQ g rmM_hang h' (some (.int r'))) 0 0 h 105 [some (.ref x0), some (.int x1), some (.int x2), some (.int x3), some (.int x4), none, none, none, none, none] [] := by
  unfold fM_hang_105 at hf
  refine v_iconst (pc := 105) (0:Int32) dM_hang_105 rfl ?_
  refine v_istore (pc := 106) (ls' := [some (.ref x0), some (.int x1), some (.int x2), some (.int x3), some (.int x4), none, some (.int (0:Int32)), none, none, none]) dM_hang_106 (by decide) rfl ?_
  refine v_wk (ls' := [some (.ref x0), some (.int x1), some (.int x2), some (.int x3), some (.int x4), none, some (.int (0:Int32)), none, none, none]) ⟨rfl, rfl, rfl, rfl, rfl, rfl, trivial⟩ ?_
  exact tM_hang_108 n h x0 x1 x2 x3 x4 (0:Int32) hf
def bM_hang_51 (n : Nat) (k51 : (MH × Nat × Int32 × Int32 × Int32 × Int32 × Int32) → Option (MH × Int32)) (h : MH) (x0 : Nat) (x1 : Int32) (x2 : Int32) (x3 : Int32) (x4 : Int32) (x5 : Int32) : Option (MH × Int32) := ((gfR h x0 [12] 3).bind fun a1 => ((rdI h a1 x1).bind fun i2 => (if i2 ≤ x4 then (fM_hang_105 n h x0 x1 x2 x3 x4) else (if x5 = (0:Int32) then (fM_hang_105 n h x0 x1 x2 x3 x4) else ((chk h x0 12).bind fun _ => (bnd2 (fM_endOf n h x0 x1 x4) fun h3 i4 => ((chk h3 x0 12).bind fun _ => (bnd2 (fM_isGreater n h3 x0 x1 x4 i4 x2) fun h5 i6 => (if i6 = (0:Int32) then (fM_hang_100 k51 n h5 x4 x0 x1 x2 x3 i6) else (fM_hang_100 k51 n h5 i4 x0 x1 x2 x3 i6))))))))))
def fM_hang_51 (n : Nat) (h : MH) (x0 : Nat) (x1 : Int32) (x2 : Int32) (x3 : Int32) (x4 : Int32) (x5 : Int32) : Option (MH × Int32) := lp (fun n k s => bM_hang_51 n k s.1 s.2.1 s.2.2.1 s.2.2.2.1 s.2.2.2.2.1 s.2.2.2.2.2.1 s.2.2.2.2.2.2) n (h, x0, x1, x2, x3, x4, x5)
set_option maxRecDepth 20000 in
set_option maxHeartbeats 4000000 in
theorem tM_hang_51 {g : Gh} {h' : MH} {r' : Int32} (n : Nat) (h : MH) (x0 : Nat) (x1 : Int32) (x2 : Int32) (x3 : Int32) (x4 : Int32) (x5 : Int32) (hf : fM_hang_51 n h x0 x1 x2 x3 x4 x5 = some (h', r')) : V g yM_hang cM_hang 10 (some .int) rmM_hang (ZQ g rmM_hang h' (some (.int r'))) 0 0 h 51 [some (.ref x0), some (.int x1), some (.int x2), some (.int x3), some (.int x4), some (.int x5), none, none, none, none] [] := by
  unfold fM_hang_51 at hf
  refine lp_ind (P := fun s => V g yM_hang cM_hang 10 (some .int) rmM_hang (ZQ g rmM_hang h' (some (.int r'))) 0 0 s.1 51 [some (.ref s.2.1), some (.int s.2.2.1), some (.int s.2.2.2.1), some (.int s.2.2.2.2.1), some (.int s.2.2.2.2.2.1), some (.int s.2.2.2.2.2.2), none, none, none, none] []) (fun n k51 hk51 s hf => ?_) n (h, x0, x1, x2, x3, x4, x5) hf
  obtain ⟨h, x0, x1, x2, x3, x4, x5⟩ := s
  replace hk51 : ∀ (h : MH) (x0 : Nat) (x1 : Int32) (x2 : Int32) (x3 : Int32) (x4 : Int32) (x5 : Int32), k51 (h, x0, x1, x2, x3, x4, x5) = some (h', r') → V g yM_hang cM_hang 10 (some .int) rmM_hang (ZQ g rmM_hang h' (some (.int r'))) 0 0 h 51 [some (.ref x0), some (.int x1), some (.int x2), some (.int x3), some (.int x4), some (.int x5), none, none, none, none] [] := fun h x0 x1 x2 x3 x4 x5 => hk51 (h, x0, x1, x2, x3, x4, x5)
  replace hf : bM_hang_51 n k51 h x0 x1 x2 x3 x4 x5 = some (h', r') := hf
  change V g yM_hang cM_hang 10 (some .int) rmM_hang (ZQ g rmM_hang h' (some (.int r'))) 0 0 h 51 [some (.ref x0), some (.int x1), some (.int x2), some (.int x3), some (.int x4), some (.int x5), none, none, none, none] []
  unfold bM_hang_51 at hf
  refine v_iload (pc := 51) dM_hang_51 rfl ?_
  refine v_aload_n (i := 0) (pc := 53) dM_hang_53 rfl rfl ?_
  refine v_getR (pc := 54) fgM_17 dM_hang_54 hf (fun a1 hf => ?_)
  refine v_iload_n (i := 1) (pc := 57) dM_hang_57 rfl rfl ?_
  refine v_iald (pc := 58) dM_hang_58 hf (fun i2 hf => ?_)
  refine v_icmp_ge (pc := 59) (tgt := 105) dM_hang_59 rfl hf (fun hf => ?_) (fun hf => ?_)
  · refine v_wk (ls' := [some (.ref x0), some (.int x1), some (.int x2), some (.int x3), some (.int x4), none, none, none, none, none]) ⟨rfl, rfl, rfl, rfl, rfl, trivial⟩ ?_
    exact tM_hang_105 n h x0 x1 x2 x3 x4 hf
  refine v_iload (pc := 62) dM_hang_62 rfl ?_
  refine v_if_eq (pc := 64) (tgt := 105) dM_hang_64 rfl hf (fun hf => ?_) (fun hf => ?_)
  · refine v_wk (ls' := [some (.ref x0), some (.int x1), some (.int x2), some (.int x3), some (.int x4), none, none, none, none, none]) ⟨rfl, rfl, rfl, rfl, rfl, trivial⟩ ?_
    exact tM_hang_105 n h x0 x1 x2 x3 x4 hf
  refine v_aload_n (i := 0) (pc := 67) dM_hang_67 rfl rfl ?_
  refine v_iload_n (i := 1) (pc := 68) dM_hang_68 rfl rfl ?_
  refine v_iload (pc := 69) dM_hang_69 rfl ?_
  obtain ⟨u10, cu10, hf⟩ := bnd hf
  obtain ⟨h3, i4, e9, hf⟩ := bndp hf
  refine v_M1 (pc := 71) (As := [.int x1, .int x4]) (rest := []) lmM_91 cu10 (sM_endOf e9) ⟨Nat.le_of_ble_eq_true rfl, Nat.le_of_ble_eq_true rfl, Nat.le_of_ble_eq_true rfl, Nat.le_of_ble_eq_true rfl⟩ dM_hang_71 rfl rfl (Nat.le_of_ble_eq_true rfl) ?_
  refine v_istore (pc := 74) (ls' := [some (.ref x0), some (.int x1), some (.int x2), some (.int x3), some (.int x4), some (.int x5), some (.int i4), none, none, none]) dM_hang_74 (by decide) rfl ?_
  refine v_aload_n (i := 0) (pc := 76) dM_hang_76 rfl rfl ?_
  refine v_iload_n (i := 1) (pc := 77) dM_hang_77 rfl rfl ?_
  refine v_iload (pc := 78) dM_hang_78 rfl ?_
  refine v_iload (pc := 80) dM_hang_80 rfl ?_
  refine v_iload_n (i := 2) (pc := 82) dM_hang_82 rfl rfl ?_
  obtain ⟨u8, cu8, hf⟩ := bnd hf
  obtain ⟨h5, i6, e7, hf⟩ := bndp hf
  refine v_M1 (pc := 83) (As := [.int x1, .int x4, .int i4, .int x2]) (rest := []) lmM_108 cu8 (sM_isGreater e7) ⟨Nat.le_of_ble_eq_true rfl, Nat.le_of_ble_eq_true rfl, Nat.le_of_ble_eq_true rfl, Nat.le_of_ble_eq_true rfl⟩ dM_hang_83 rfl rfl (Nat.le_of_ble_eq_true rfl) ?_
  refine v_istore (pc := 86) (ls' := [some (.ref x0), some (.int x1), some (.int x2), some (.int x3), some (.int x4), some (.int i6), some (.int i4), none, none, none]) dM_hang_86 (by decide) rfl ?_
  refine v_iload (pc := 88) dM_hang_88 rfl ?_
  refine v_if_eq (pc := 90) (tgt := 98) dM_hang_90 rfl hf (fun hf => ?_) (fun hf => ?_)
  · refine v_iload (pc := 98) dM_hang_98 rfl ?_
    refine v_wk (ls' := [some (.ref x0), some (.int x1), some (.int x2), some (.int x3), none, some (.int i6), none, none, none, none]) ⟨rfl, rfl, rfl, rfl, rfl, trivial⟩ ?_
    exact tM_hang_100 hk51 n h5 x4 x0 x1 x2 x3 i6 hf
  refine v_iload (pc := 93) dM_hang_93 rfl ?_
  refine v_goto (pc := 95) (tgt := 100) dM_hang_95 rfl ?_
  refine v_wk (ls' := [some (.ref x0), some (.int x1), some (.int x2), some (.int x3), none, some (.int i6), none, none, none, none]) ⟨rfl, rfl, rfl, rfl, rfl, trivial⟩ ?_
  exact tM_hang_100 hk51 n h5 i4 x0 x1 x2 x3 i6 hf
def fM_hang (n : Nat) (h : MH) (a_0 : Nat) (i_1 : Int32) (i_2 : Int32) : Option (MH × Int32) := ((pf h a_0 [12] 0 (.int (0:Int32))).bind fun h1 => (bnd2 (fM_isTree h1 i_1) fun h2 i3 => (if i3 = (0:Int32) then (some (h2, (-1000001:Int32))) else (bnd2 (fM_isTree h2 i_2) fun h4 i5 => (if i5 = (0:Int32) then (some (h4, (-1000001:Int32))) else ((gfR h4 a_0 [12] 3).bind fun a6 => ((rdI h4 a6 i_1).bind fun i7 => ((gfR h4 a_0 [12] 3).bind fun a8 => ((rdI h4 a8 i_2).bind fun i9 => (if (i7 + i9) ≤ (6:Int32) then (fM_hang_51 n h4 a_0 i_1 i_2 (i7 + i9) (1:Int32) (1:Int32)) else (some (h4, (-1000000:Int32)))))))))))))
set_option maxRecDepth 20000 in
set_option maxHeartbeats 4000000 in
theorem sM_hang {g : Gh} {h' : MH} {r' : Int32} {n : Nat} {h : MH} {a_0 : Nat} {i_1 : Int32} {i_2 : Int32} (hf : fM_hang n h a_0 i_1 i_2 = some (h', r')) : Sp g yM_hang cM_hang 10 (some .int) rmM_hang h [.ref a_0, .int i_1, .int i_2] h' (some (.int r')) := by
  refine sp_of (by decide) (Nat.le_of_ble_eq_true rfl) ?_
  change V g yM_hang cM_hang 10 (some .int) rmM_hang (ZQ g rmM_hang h' (some (.int r'))) 0 0 h 0 [some (.ref a_0), some (.int i_1), some (.int i_2), none, none, none, none, none, none, none] []
  unfold fM_hang at hf
  refine v_aload_n (i := 0) (pc := 0) dM_hang_0 rfl rfl ?_
  refine v_iconst (pc := 1) (0:Int32) dM_hang_1 rfl ?_
  refine v_put (pc := 2) fpM_1 (fun _ => ⟨rfl, rfl⟩) dM_hang_2 hf (fun h1 hf => ?_)
  refine v_iload_n (i := 1) (pc := 5) dM_hang_5 rfl rfl ?_
  obtain ⟨h2, i3, e11, hf⟩ := bndp hf
  refine v_S1 (pc := 6) (As := [.int i_1]) (rest := []) lsM_96 (sM_isTree e11) ⟨Nat.le_of_ble_eq_true rfl, Nat.le_of_ble_eq_true rfl, Nat.le_of_ble_eq_true rfl, Nat.le_of_ble_eq_true rfl⟩ dM_hang_6 rfl rfl (Nat.le_of_ble_eq_true rfl) ?_
  refine v_if_eq (pc := 9) (tgt := 19) dM_hang_9 rfl hf (fun hf => ?_) (fun hf => ?_)
  · refine v_ldc (pc := 19) dM_hang_19 kiM_90 ?_
    exact v_iret (pc := 21) dM_hang_21 (by decide) (by decide) hf
  refine v_iload_n (i := 2) (pc := 12) dM_hang_12 rfl rfl ?_
  obtain ⟨h4, i5, e10, hf⟩ := bndp hf
  refine v_S1 (pc := 13) (As := [.int i_2]) (rest := []) lsM_96 (sM_isTree e10) ⟨Nat.le_of_ble_eq_true rfl, Nat.le_of_ble_eq_true rfl, Nat.le_of_ble_eq_true rfl, Nat.le_of_ble_eq_true rfl⟩ dM_hang_13 rfl rfl (Nat.le_of_ble_eq_true rfl) ?_
  refine v_if_ne (pc := 16) (tgt := 22) dM_hang_16 rfl hf (fun hf => ?_) (fun hf => ?_)
  · refine v_ldc (pc := 19) dM_hang_19 kiM_90 ?_
    exact v_iret (pc := 21) dM_hang_21 (by decide) (by decide) hf
  refine v_aload_n (i := 0) (pc := 22) dM_hang_22 rfl rfl ?_
  refine v_getR (pc := 23) fgM_17 dM_hang_23 hf (fun a6 hf => ?_)
  refine v_iload_n (i := 1) (pc := 26) dM_hang_26 rfl rfl ?_
  refine v_iald (pc := 27) dM_hang_27 hf (fun i7 hf => ?_)
  refine v_aload_n (i := 0) (pc := 28) dM_hang_28 rfl rfl ?_
  refine v_getR (pc := 29) fgM_17 dM_hang_29 hf (fun a8 hf => ?_)
  refine v_iload_n (i := 2) (pc := 32) dM_hang_32 rfl rfl ?_
  refine v_iald (pc := 33) dM_hang_33 hf (fun i9 hf => ?_)
  refine v_iadd (pc := 34) dM_hang_34 ?_
  refine v_istore_n (i := 3) (pc := 35) (ls' := [some (.ref a_0), some (.int i_1), some (.int i_2), some (.int (i7 + i9)), none, none, none, none, none, none]) dM_hang_35 rfl (by decide) rfl ?_
  refine v_iload_n (i := 3) (pc := 36) dM_hang_36 rfl rfl ?_
  refine v_bipush (pc := 37) (6:Int32) dM_hang_37 rfl ?_
  refine v_icmp_le (pc := 39) (tgt := 45) dM_hang_39 rfl hf (fun hf => ?_) (fun hf => ?_)
  rotate_left
  · refine v_ldc (pc := 42) dM_hang_42 kiM_95 ?_
    exact v_iret (pc := 44) dM_hang_44 (by decide) (by decide) hf
  refine v_iconst (pc := 45) (1:Int32) dM_hang_45 rfl ?_
  refine v_istore (pc := 46) (ls' := [some (.ref a_0), some (.int i_1), some (.int i_2), some (.int (i7 + i9)), some (.int (1:Int32)), none, none, none, none, none]) dM_hang_46 (by decide) rfl ?_
  refine v_iconst (pc := 48) (1:Int32) dM_hang_48 rfl ?_
  refine v_istore (pc := 49) (ls' := [some (.ref a_0), some (.int i_1), some (.int i_2), some (.int (i7 + i9)), some (.int (1:Int32)), some (.int (1:Int32)), none, none, none, none]) dM_hang_49 (by decide) rfl ?_
  refine v_wk (ls' := [some (.ref a_0), some (.int i_1), some (.int i_2), some (.int (i7 + i9)), some (.int (1:Int32)), some (.int (1:Int32)), none, none, none, none]) ⟨rfl, rfl, rfl, rfl, rfl, rfl, trivial⟩ ?_
  exact tM_hang_51 n h4 a_0 i_1 i_2 (i7 + i9) (1:Int32) (1:Int32) hf
abbrev rmM_isSheet : Room := { frames := 1, cells := 0, slots := 0, locals := 25 }
def fM_isSheet (h : MH) (i_0 : Int32) : Option (MH × Int32) := (bnd2 (fM_in h i_0.toInt64 (0:Int64) (7:Int64)) fun h1 i2 => (retZ h1 i2))
set_option maxRecDepth 20000 in
set_option maxHeartbeats 4000000 in
theorem sM_isSheet {g : Gh} {h' : MH} {r' : Int32} {h : MH} {i_0 : Int32} (hf : fM_isSheet h i_0 = some (h', r')) : Sp g yM_isSheet cM_isSheet 1 (some .boolean) rmM_isSheet h [.int i_0] h' (some (.int r')) := by
  refine sp_of (by decide) (Nat.le_of_ble_eq_true rfl) ?_
  change V g yM_isSheet cM_isSheet 1 (some .boolean) rmM_isSheet (ZQ g rmM_isSheet h' (some (.int r'))) 0 0 h 0 [some (.int i_0)] []
  unfold fM_isSheet at hf
  refine v_iload_n (i := 0) (pc := 0) dM_isSheet_0 rfl rfl ?_
  refine v_i2l (pc := 1) dM_isSheet_1 ?_
  refine v_lconst (pc := 2) (0:Int64) dM_isSheet_2 rfl ?_
  refine v_ldc2 (pc := 3) dM_isSheet_3 klM_112 ?_
  obtain ⟨h1, i2, e3, hf⟩ := bndp hf
  refine v_S1 (pc := 6) (As := [.long i_0.toInt64, .long (0:Int64), .long (7:Int64)]) (rest := []) lsM_71 (sM_in e3) ⟨Nat.le_of_ble_eq_true rfl, Nat.le_of_ble_eq_true rfl, Nat.le_of_ble_eq_true rfl, Nat.le_of_ble_eq_true rfl⟩ dM_isSheet_6 rfl rfl (Nat.le_of_ble_eq_true rfl) ?_
  exact v_zret (pc := 9) dM_isSheet_9 (by decide) (by decide) hf
abbrev rmM_sheet : Room := { frames := 2, cells := 0, slots := 0, locals := 45 }
def bM_sheet_65 (n : Nat) (k65 : (MH × Nat × Int32 × Int32 × Int32) → Option (MH × Int32)) (h : MH) (x0 : Nat) (x1 : Int32) (x3 : Int32) (x4 : Int32) : Option (MH × Int32) := (if (80:Int32) ≤ x4 then (some (h, x3)) else ((gfR h x0 [12] 8).bind fun a1 => ((wrL h a1 (((80:Int32) * x1) + x4) (0:Int64)).bind fun h2 => (k65 (h2, x0, x1, x3, (x4 + (1:Int32)))))))
def fM_sheet_65 (n : Nat) (h : MH) (x0 : Nat) (x1 : Int32) (x3 : Int32) (x4 : Int32) : Option (MH × Int32) := lp (fun n k s => bM_sheet_65 n k s.1 s.2.1 s.2.2.1 s.2.2.2.1 s.2.2.2.2) n (h, x0, x1, x3, x4)
set_option maxRecDepth 20000 in
set_option maxHeartbeats 4000000 in
theorem tM_sheet_65 {g : Gh} {h' : MH} {r' : Int32} (n : Nat) (h : MH) (x0 : Nat) (x1 : Int32) (x3 : Int32) (x4 : Int32) (hf : fM_sheet_65 n h x0 x1 x3 x4 = some (h', r')) : V g yM_sheet cM_sheet 5 (some .int) rmM_sheet (ZQ g rmM_sheet h' (some (.int r'))) 0 0 h 65 [some (.ref x0), some (.int x1), none, some (.int x3), some (.int x4)] [] := by
  unfold fM_sheet_65 at hf
  refine lp_ind (P := fun s => V g yM_sheet cM_sheet 5 (some .int) rmM_sheet (ZQ g rmM_sheet h' (some (.int r'))) 0 0 s.1 65 [some (.ref s.2.1), some (.int s.2.2.1), none, some (.int s.2.2.2.1), some (.int s.2.2.2.2)] []) (fun n k65 hk65 s hf => ?_) n (h, x0, x1, x3, x4) hf
  obtain ⟨h, x0, x1, x3, x4⟩ := s
  replace hk65 : ∀ (h : MH) (x0 : Nat) (x1 : Int32) (x3 : Int32) (x4 : Int32), k65 (h, x0, x1, x3, x4) = some (h', r') → V g yM_sheet cM_sheet 5 (some .int) rmM_sheet (ZQ g rmM_sheet h' (some (.int r'))) 0 0 h 65 [some (.ref x0), some (.int x1), none, some (.int x3), some (.int x4)] [] := fun h x0 x1 x3 x4 => hk65 (h, x0, x1, x3, x4)
  replace hf : bM_sheet_65 n k65 h x0 x1 x3 x4 = some (h', r') := hf
  change V g yM_sheet cM_sheet 5 (some .int) rmM_sheet (ZQ g rmM_sheet h' (some (.int r'))) 0 0 h 65 [some (.ref x0), some (.int x1), none, some (.int x3), some (.int x4)] []
  unfold bM_sheet_65 at hf
  refine v_iload (pc := 65) dM_sheet_65 rfl ?_
  refine v_bipush (pc := 67) (80:Int32) dM_sheet_67 rfl ?_
  refine v_icmp_ge (pc := 69) (tgt := 91) dM_sheet_69 rfl hf (fun hf => ?_) (fun hf => ?_)
  · refine v_iload_n (i := 3) (pc := 91) dM_sheet_91 rfl rfl ?_
    exact v_iret (pc := 92) dM_sheet_92 (by decide) (by decide) hf
  refine v_aload_n (i := 0) (pc := 72) dM_sheet_72 rfl rfl ?_
  refine v_getR (pc := 73) fgM_33 dM_sheet_73 hf (fun a1 hf => ?_)
  refine v_bipush (pc := 76) (80:Int32) dM_sheet_76 rfl ?_
  refine v_iload_n (i := 1) (pc := 78) dM_sheet_78 rfl rfl ?_
  refine v_imul (pc := 79) dM_sheet_79 ?_
  refine v_iload (pc := 80) dM_sheet_80 rfl ?_
  refine v_iadd (pc := 82) dM_sheet_82 ?_
  refine v_lconst (pc := 83) (0:Int64) dM_sheet_83 rfl ?_
  refine v_last (pc := 84) dM_sheet_84 hf (fun h2 hf => ?_)
  refine v_iinc (pc := 85) (v := (x4 + (1:Int32))) (ls' := [some (.ref x0), some (.int x1), none, some (.int x3), some (.int (x4 + (1:Int32)))]) dM_sheet_85 rfl rfl (by decide) rfl ?_
  refine v_goto (pc := 88) (tgt := 65) dM_sheet_88 rfl ?_
  refine v_wk (ls' := [some (.ref x0), some (.int x1), none, some (.int x3), some (.int (x4 + (1:Int32)))]) ⟨rfl, rfl, rfl, rfl, trivial⟩ ?_
  exact hk65 h2 x0 x1 x3 (x4 + (1:Int32)) hf
def fM_sheet (n : Nat) (h : MH) (a_0 : Nat) (i_1 : Int32) (i_2 : Int32) (i_3 : Int32) : Option (MH × Int32) := ((pf h a_0 [12] 0 (.int (0:Int32))).bind fun h1 => (bnd2 (fM_isSheet h1 i_1) fun h2 i3 => (if i3 = (0:Int32) then (some (h2, (-1000001:Int32))) else (bnd2 (fM_in h2 i_2.toInt64 (0:Int64) (2:Int64)) fun h4 i5 => (if i5 = (0:Int32) then (some (h4, (-1000001:Int32))) else (if i_3 ≤ (80:Int32) then ((pf h4 a_0 [12] 1 (.int (0:Int32))).bind fun h6 => (if (0:Int32) ≤ i_3 then ((gfR h6 a_0 [12] 6).bind fun a7 => ((wrI h6 a7 i_1 i_2).bind fun h8 => ((gfR h8 a_0 [12] 7).bind fun a9 => ((wrI h8 a9 i_1 i_3).bind fun h10 => (fM_sheet_65 n h10 a_0 i_1 i_3 (0:Int32)))))) else ((chk h6 a_0 12).bind fun _ => (bnd2 (fM_found h6 a_0 (4:Int32)) fun h11 i12 => (some (h11, i12)))))) else (some (h4, (-1000001:Int32)))))))))
set_option maxRecDepth 20000 in
set_option maxHeartbeats 4000000 in
theorem sM_sheet {g : Gh} {h' : MH} {r' : Int32} {n : Nat} {h : MH} {a_0 : Nat} {i_1 : Int32} {i_2 : Int32} {i_3 : Int32} (hf : fM_sheet n h a_0 i_1 i_2 i_3 = some (h', r')) : Sp g yM_sheet cM_sheet 5 (some .int) rmM_sheet h [.ref a_0, .int i_1, .int i_2, .int i_3] h' (some (.int r')) := by
  refine sp_of (by decide) (Nat.le_of_ble_eq_true rfl) ?_
  change V g yM_sheet cM_sheet 5 (some .int) rmM_sheet (ZQ g rmM_sheet h' (some (.int r'))) 0 0 h 0 [some (.ref a_0), some (.int i_1), some (.int i_2), some (.int i_3), none] []
  unfold fM_sheet at hf
  refine v_aload_n (i := 0) (pc := 0) dM_sheet_0 rfl rfl ?_
  refine v_iconst (pc := 1) (0:Int32) dM_sheet_1 rfl ?_
  refine v_put (pc := 2) fpM_1 (fun _ => ⟨rfl, rfl⟩) dM_sheet_2 hf (fun h1 hf => ?_)
  refine v_iload_n (i := 1) (pc := 5) dM_sheet_5 rfl rfl ?_
  obtain ⟨h2, i3, e16, hf⟩ := bndp hf
  refine v_S1 (pc := 6) (As := [.int i_1]) (rest := []) lsM_114 (sM_isSheet e16) ⟨Nat.le_of_ble_eq_true rfl, Nat.le_of_ble_eq_true rfl, Nat.le_of_ble_eq_true rfl, Nat.le_of_ble_eq_true rfl⟩ dM_sheet_6 rfl rfl (Nat.le_of_ble_eq_true rfl) ?_
  refine v_if_eq (pc := 9) (tgt := 30) dM_sheet_9 rfl hf (fun hf => ?_) (fun hf => ?_)
  · refine v_ldc (pc := 30) dM_sheet_30 kiM_90 ?_
    exact v_iret (pc := 32) dM_sheet_32 (by decide) (by decide) hf
  refine v_iload_n (i := 2) (pc := 12) dM_sheet_12 rfl rfl ?_
  refine v_i2l (pc := 13) dM_sheet_13 ?_
  refine v_lconst (pc := 14) (0:Int64) dM_sheet_14 rfl ?_
  refine v_ldc2 (pc := 15) dM_sheet_15 klM_117 ?_
  obtain ⟨h4, i5, e15, hf⟩ := bndp hf
  refine v_S1 (pc := 18) (As := [.long i_2.toInt64, .long (0:Int64), .long (2:Int64)]) (rest := []) lsM_71 (sM_in e15) ⟨Nat.le_of_ble_eq_true rfl, Nat.le_of_ble_eq_true rfl, Nat.le_of_ble_eq_true rfl, Nat.le_of_ble_eq_true rfl⟩ dM_sheet_18 rfl rfl (Nat.le_of_ble_eq_true rfl) ?_
  refine v_if_eq (pc := 21) (tgt := 30) dM_sheet_21 rfl hf (fun hf => ?_) (fun hf => ?_)
  · refine v_ldc (pc := 30) dM_sheet_30 kiM_90 ?_
    exact v_iret (pc := 32) dM_sheet_32 (by decide) (by decide) hf
  refine v_iload_n (i := 3) (pc := 24) dM_sheet_24 rfl rfl ?_
  refine v_bipush (pc := 25) (80:Int32) dM_sheet_25 rfl ?_
  refine v_icmp_le (pc := 27) (tgt := 33) dM_sheet_27 rfl hf (fun hf => ?_) (fun hf => ?_)
  rotate_left
  · refine v_ldc (pc := 30) dM_sheet_30 kiM_90 ?_
    exact v_iret (pc := 32) dM_sheet_32 (by decide) (by decide) hf
  refine v_aload_n (i := 0) (pc := 33) dM_sheet_33 rfl rfl ?_
  refine v_iconst (pc := 34) (0:Int32) dM_sheet_34 rfl ?_
  refine v_put (pc := 35) fpM_7 (fun _ => ⟨rfl, rfl⟩) dM_sheet_35 hf (fun h6 hf => ?_)
  refine v_iload_n (i := 3) (pc := 38) dM_sheet_38 rfl rfl ?_
  refine v_if_ge (pc := 39) (tgt := 48) dM_sheet_39 rfl hf (fun hf => ?_) (fun hf => ?_)
  rotate_left
  · refine v_aload_n (i := 0) (pc := 42) dM_sheet_42 rfl rfl ?_
    refine v_iconst (pc := 43) (4:Int32) dM_sheet_43 rfl ?_
    obtain ⟨u14, cu14, hf⟩ := bnd hf
    obtain ⟨h11, i12, e13, hf⟩ := bndp hf
    refine v_M1 (pc := 44) (As := [.int (4:Int32)]) (rest := []) lmM_119 cu14 (sM_found e13) ⟨Nat.le_of_ble_eq_true rfl, Nat.le_of_ble_eq_true rfl, Nat.le_of_ble_eq_true rfl, Nat.le_of_ble_eq_true rfl⟩ dM_sheet_44 rfl rfl (Nat.le_of_ble_eq_true rfl) ?_
    exact v_iret (pc := 47) dM_sheet_47 (by decide) (by decide) hf
  refine v_aload_n (i := 0) (pc := 48) dM_sheet_48 rfl rfl ?_
  refine v_getR (pc := 49) fgM_27 dM_sheet_49 hf (fun a7 hf => ?_)
  refine v_iload_n (i := 1) (pc := 52) dM_sheet_52 rfl rfl ?_
  refine v_iload_n (i := 2) (pc := 53) dM_sheet_53 rfl rfl ?_
  refine v_iast (pc := 54) dM_sheet_54 hf (fun h8 hf => ?_)
  refine v_aload_n (i := 0) (pc := 55) dM_sheet_55 rfl rfl ?_
  refine v_getR (pc := 56) fgM_30 dM_sheet_56 hf (fun a9 hf => ?_)
  refine v_iload_n (i := 1) (pc := 59) dM_sheet_59 rfl rfl ?_
  refine v_iload_n (i := 3) (pc := 60) dM_sheet_60 rfl rfl ?_
  refine v_iast (pc := 61) dM_sheet_61 hf (fun h10 hf => ?_)
  refine v_iconst (pc := 62) (0:Int32) dM_sheet_62 rfl ?_
  refine v_istore (pc := 63) (ls' := [some (.ref a_0), some (.int i_1), some (.int i_2), some (.int i_3), some (.int (0:Int32))]) dM_sheet_63 (by decide) rfl ?_
  refine v_wk (ls' := [some (.ref a_0), some (.int i_1), none, some (.int i_3), some (.int (0:Int32))]) ⟨rfl, rfl, rfl, rfl, trivial⟩ ?_
  exact tM_sheet_65 n h10 a_0 i_1 i_3 (0:Int32) hf
abbrev rmM_set : Room := { frames := 2, cells := 0, slots := 0, locals := 45 }
def fM_set_105 (n : Nat) (h : MH) (s0 : Int64) (s1 : Int32) (s2 : Nat) (x0 : Nat) (x1 : Int32) (x2 : Int32) : Option (MH × Int64) := ((wrL h s2 s1 s0).bind fun h1 => ((gfR h1 x0 [12] 8).bind fun a2 => ((rdL h1 a2 (((80:Int32) * x1) + x2)).bind fun j3 => (some (h1, j3)))))
set_option maxRecDepth 20000 in
set_option maxHeartbeats 4000000 in
theorem tM_set_105 {g : Gh} {h' : MH} {r' : Int64} (n : Nat) (h : MH) (s0 : Int64) (s1 : Int32) (s2 : Nat) (x0 : Nat) (x1 : Int32) (x2 : Int32) (hf : fM_set_105 n h s0 s1 s2 x0 x1 x2 = some (h', r')) : V g yM_set cM_set 5 (some .long) rmM_set (ZQ g rmM_set h' (some (.long r'))) 0 0 h 105 [some (.ref x0), some (.int x1), some (.int x2), none, none] [.long s0, .int s1, .ref s2] := by
  unfold fM_set_105 at hf
  refine v_last (pc := 105) dM_set_105 hf (fun h1 hf => ?_)
  refine v_aload_n (i := 0) (pc := 106) dM_set_106 rfl rfl ?_
  refine v_getR (pc := 107) fgM_33 dM_set_107 hf (fun a2 hf => ?_)
  refine v_bipush (pc := 110) (80:Int32) dM_set_110 rfl ?_
  refine v_iload_n (i := 1) (pc := 112) dM_set_112 rfl rfl ?_
  refine v_imul (pc := 113) dM_set_113 ?_
  refine v_iload_n (i := 2) (pc := 114) dM_set_114 rfl rfl ?_
  refine v_iadd (pc := 115) dM_set_115 ?_
  refine v_lald (pc := 116) dM_set_116 hf (fun j3 hf => ?_)
  exact v_lret (pc := 117) dM_set_117 (by decide) (by decide) hf
def fM_set (n : Nat) (h : MH) (a_0 : Nat) (i_1 : Int32) (i_2 : Int32) (j_3 : Int64) : Option (MH × Int64) := ((pf h a_0 [12] 0 (.int (0:Int32))).bind fun h1 => (bnd2 (fM_isSheet h1 i_1) fun h2 i3 => (if i3 = (0:Int32) then (some (h2, (-1000001:Int64))) else ((pf h2 a_0 [12] 1 (.int (0:Int32))).bind fun h4 => ((gfR h4 a_0 [12] 6).bind fun a5 => ((rdI h4 a5 i_1).bind fun i6 => (if (0:Int32) ≤ i6 then ((gfR h4 a_0 [12] 7).bind fun a7 => ((rdI h4 a7 i_1).bind fun i8 => (bnd2 (fM_in h4 i_2.toInt64 (0:Int64) (i8 - (1:Int32)).toInt64) fun h9 i10 => (if i10 = (0:Int32) then ((chk h9 a_0 12).bind fun _ => (bnd2 (fM_found h9 a_0 (2:Int32)) fun h16 i17 => (some (h16, i17.toInt64)))) else ((gfR h9 a_0 [12] 8).bind fun a11 => ((gfR h9 a_0 [12] 6).bind fun a12 => ((rdI h9 a12 i_1).bind fun i13 => (if i13 = (0:Int32) then (fM_set_105 n h9 j_3.toInt32.toInt8.toInt32.toInt64 (((80:Int32) * i_1) + i_2) a11 a_0 i_1 i_2) else ((gfR h9 a_0 [12] 6).bind fun a14 => ((rdI h9 a14 i_1).bind fun i15 => (if i15 = (1:Int32) then (fM_set_105 n h9 j_3.toInt32.toInt64 (((80:Int32) * i_1) + i_2) a11 a_0 i_1 i_2) else (fM_set_105 n h9 j_3 (((80:Int32) * i_1) + i_2) a11 a_0 i_1 i_2)))))))))))) else ((chk h4 a_0 12).bind fun _ => (bnd2 (fM_found h4 a_0 (1:Int32)) fun h21 i22 => (some (h21, i22.toInt64)))))))))))
set_option maxRecDepth 20000 in
set_option maxHeartbeats 4000000 in
theorem sM_set {g : Gh} {h' : MH} {r' : Int64} {n : Nat} {h : MH} {a_0 : Nat} {i_1 : Int32} {i_2 : Int32} {j_3 : Int64} (hf : fM_set n h a_0 i_1 i_2 j_3 = some (h', r')) : Sp g yM_set cM_set 5 (some .long) rmM_set h [.ref a_0, .int i_1, .int i_2, .long j_3] h' (some (.long r')) := by
  refine sp_of (by decide) (Nat.le_of_ble_eq_true rfl) ?_
  change V g yM_set cM_set 5 (some .long) rmM_set (ZQ g rmM_set h' (some (.long r'))) 0 0 h 0 [some (.ref a_0), some (.int i_1), some (.int i_2), some (.long j_3), none] []
  unfold fM_set at hf
  refine v_aload_n (i := 0) (pc := 0) dM_set_0 rfl rfl ?_
  refine v_iconst (pc := 1) (0:Int32) dM_set_1 rfl ?_
  refine v_put (pc := 2) fpM_1 (fun _ => ⟨rfl, rfl⟩) dM_set_2 hf (fun h1 hf => ?_)
  refine v_iload_n (i := 1) (pc := 5) dM_set_5 rfl rfl ?_
  obtain ⟨h2, i3, e25, hf⟩ := bndp hf
  refine v_S1 (pc := 6) (As := [.int i_1]) (rest := []) lsM_114 (sM_isSheet e25) ⟨Nat.le_of_ble_eq_true rfl, Nat.le_of_ble_eq_true rfl, Nat.le_of_ble_eq_true rfl, Nat.le_of_ble_eq_true rfl⟩ dM_set_6 rfl rfl (Nat.le_of_ble_eq_true rfl) ?_
  refine v_if_ne (pc := 9) (tgt := 16) dM_set_9 rfl hf (fun hf => ?_) (fun hf => ?_)
  · refine v_ldc2 (pc := 12) dM_set_12 klM_122 ?_
    exact v_lret (pc := 15) dM_set_15 (by decide) (by decide) hf
  refine v_aload_n (i := 0) (pc := 16) dM_set_16 rfl rfl ?_
  refine v_iconst (pc := 17) (0:Int32) dM_set_17 rfl ?_
  refine v_put (pc := 18) fpM_7 (fun _ => ⟨rfl, rfl⟩) dM_set_18 hf (fun h4 hf => ?_)
  refine v_aload_n (i := 0) (pc := 21) dM_set_21 rfl rfl ?_
  refine v_getR (pc := 22) fgM_27 dM_set_22 hf (fun a5 hf => ?_)
  refine v_iload_n (i := 1) (pc := 25) dM_set_25 rfl rfl ?_
  refine v_iald (pc := 26) dM_set_26 hf (fun i6 hf => ?_)
  refine v_if_ge (pc := 27) (tgt := 37) dM_set_27 rfl hf (fun hf => ?_) (fun hf => ?_)
  rotate_left
  · refine v_aload_n (i := 0) (pc := 30) dM_set_30 rfl rfl ?_
    refine v_iconst (pc := 31) (1:Int32) dM_set_31 rfl ?_
    obtain ⟨u24, cu24, hf⟩ := bnd hf
    obtain ⟨h21, i22, e23, hf⟩ := bndp hf
    refine v_M1 (pc := 32) (As := [.int (1:Int32)]) (rest := []) lmM_119 cu24 (sM_found e23) ⟨Nat.le_of_ble_eq_true rfl, Nat.le_of_ble_eq_true rfl, Nat.le_of_ble_eq_true rfl, Nat.le_of_ble_eq_true rfl⟩ dM_set_32 rfl rfl (Nat.le_of_ble_eq_true rfl) ?_
    refine v_i2l (pc := 35) dM_set_35 ?_
    exact v_lret (pc := 36) dM_set_36 (by decide) (by decide) hf
  refine v_iload_n (i := 2) (pc := 37) dM_set_37 rfl rfl ?_
  refine v_i2l (pc := 38) dM_set_38 ?_
  refine v_lconst (pc := 39) (0:Int64) dM_set_39 rfl ?_
  refine v_aload_n (i := 0) (pc := 40) dM_set_40 rfl rfl ?_
  refine v_getR (pc := 41) fgM_30 dM_set_41 hf (fun a7 hf => ?_)
  refine v_iload_n (i := 1) (pc := 44) dM_set_44 rfl rfl ?_
  refine v_iald (pc := 45) dM_set_45 hf (fun i8 hf => ?_)
  refine v_iconst (pc := 46) (1:Int32) dM_set_46 rfl ?_
  refine v_isub (pc := 47) dM_set_47 ?_
  refine v_i2l (pc := 48) dM_set_48 ?_
  obtain ⟨h9, i10, e20, hf⟩ := bndp hf
  refine v_S1 (pc := 49) (As := [.long i_2.toInt64, .long (0:Int64), .long (i8 - (1:Int32)).toInt64]) (rest := []) lsM_71 (sM_in e20) ⟨Nat.le_of_ble_eq_true rfl, Nat.le_of_ble_eq_true rfl, Nat.le_of_ble_eq_true rfl, Nat.le_of_ble_eq_true rfl⟩ dM_set_49 rfl rfl (Nat.le_of_ble_eq_true rfl) ?_
  refine v_if_ne (pc := 52) (tgt := 62) dM_set_52 rfl hf (fun hf => ?_) (fun hf => ?_)
  · refine v_aload_n (i := 0) (pc := 55) dM_set_55 rfl rfl ?_
    refine v_iconst (pc := 56) (2:Int32) dM_set_56 rfl ?_
    obtain ⟨u19, cu19, hf⟩ := bnd hf
    obtain ⟨h16, i17, e18, hf⟩ := bndp hf
    refine v_M1 (pc := 57) (As := [.int (2:Int32)]) (rest := []) lmM_119 cu19 (sM_found e18) ⟨Nat.le_of_ble_eq_true rfl, Nat.le_of_ble_eq_true rfl, Nat.le_of_ble_eq_true rfl, Nat.le_of_ble_eq_true rfl⟩ dM_set_57 rfl rfl (Nat.le_of_ble_eq_true rfl) ?_
    refine v_i2l (pc := 60) dM_set_60 ?_
    exact v_lret (pc := 61) dM_set_61 (by decide) (by decide) hf
  refine v_aload_n (i := 0) (pc := 62) dM_set_62 rfl rfl ?_
  refine v_getR (pc := 63) fgM_33 dM_set_63 hf (fun a11 hf => ?_)
  refine v_bipush (pc := 66) (80:Int32) dM_set_66 rfl ?_
  refine v_iload_n (i := 1) (pc := 68) dM_set_68 rfl rfl ?_
  refine v_imul (pc := 69) dM_set_69 ?_
  refine v_iload_n (i := 2) (pc := 70) dM_set_70 rfl rfl ?_
  refine v_iadd (pc := 71) dM_set_71 ?_
  refine v_aload_n (i := 0) (pc := 72) dM_set_72 rfl rfl ?_
  refine v_getR (pc := 73) fgM_27 dM_set_73 hf (fun a12 hf => ?_)
  refine v_iload_n (i := 1) (pc := 76) dM_set_76 rfl rfl ?_
  refine v_iald (pc := 77) dM_set_77 hf (fun i13 hf => ?_)
  refine v_if_ne (pc := 78) (tgt := 88) dM_set_78 rfl hf (fun hf => ?_) (fun hf => ?_)
  · refine v_lload_n (i := 3) (pc := 81) dM_set_81 rfl rfl ?_
    refine v_l2i (pc := 82) dM_set_82 ?_
    refine v_i2b (pc := 83) dM_set_83 ?_
    refine v_i2l (pc := 84) dM_set_84 ?_
    refine v_goto (pc := 85) (tgt := 105) dM_set_85 rfl ?_
    refine v_wk (ls' := [some (.ref a_0), some (.int i_1), some (.int i_2), none, none]) ⟨rfl, rfl, rfl, trivial⟩ ?_
    exact tM_set_105 n h9 j_3.toInt32.toInt8.toInt32.toInt64 (((80:Int32) * i_1) + i_2) a11 a_0 i_1 i_2 hf
  refine v_aload_n (i := 0) (pc := 88) dM_set_88 rfl rfl ?_
  refine v_getR (pc := 89) fgM_27 dM_set_89 hf (fun a14 hf => ?_)
  refine v_iload_n (i := 1) (pc := 92) dM_set_92 rfl rfl ?_
  refine v_iald (pc := 93) dM_set_93 hf (fun i15 hf => ?_)
  refine v_iconst (pc := 94) (1:Int32) dM_set_94 rfl ?_
  refine v_icmp_ne (pc := 95) (tgt := 104) dM_set_95 rfl hf (fun hf => ?_) (fun hf => ?_)
  rotate_left
  · refine v_lload_n (i := 3) (pc := 104) dM_set_104 rfl rfl ?_
    refine v_wk (ls' := [some (.ref a_0), some (.int i_1), some (.int i_2), none, none]) ⟨rfl, rfl, rfl, trivial⟩ ?_
    exact tM_set_105 n h9 j_3 (((80:Int32) * i_1) + i_2) a11 a_0 i_1 i_2 hf
  refine v_lload_n (i := 3) (pc := 98) dM_set_98 rfl rfl ?_
  refine v_l2i (pc := 99) dM_set_99 ?_
  refine v_i2l (pc := 100) dM_set_100 ?_
  refine v_goto (pc := 101) (tgt := 105) dM_set_101 rfl ?_
  refine v_wk (ls' := [some (.ref a_0), some (.int i_1), some (.int i_2), none, none]) ⟨rfl, rfl, rfl, trivial⟩ ?_
  exact tM_set_105 n h9 j_3.toInt32.toInt64 (((80:Int32) * i_1) + i_2) a11 a_0 i_1 i_2 hf
abbrev rmM_copy : Room := { frames := 2, cells := 0, slots := 0, locals := 45 }
def fM_copy_45 (n : Nat) (h : MH) (x0 : Nat) : Option (MH × Int32) := ((chk h x0 12).bind fun _ => (bnd2 (fM_found h x0 (1:Int32)) fun h1 i2 => (some (h1, i2))))
set_option maxRecDepth 20000 in
set_option maxHeartbeats 4000000 in
theorem tM_copy_45 {g : Gh} {h' : MH} {r' : Int32} (n : Nat) (h : MH) (x0 : Nat) (hf : fM_copy_45 n h x0 = some (h', r')) : V g yM_copy cM_copy 9 (some .int) rmM_copy (ZQ g rmM_copy h' (some (.int r'))) 0 0 h 45 [some (.ref x0), none, none, none, none, none, none, none, none] [] := by
  unfold fM_copy_45 at hf
  refine v_aload_n (i := 0) (pc := 45) dM_copy_45 rfl rfl ?_
  refine v_iconst (pc := 46) (1:Int32) dM_copy_46 rfl ?_
  obtain ⟨u4, cu4, hf⟩ := bnd hf
  obtain ⟨h1, i2, e3, hf⟩ := bndp hf
  refine v_M1 (pc := 47) (As := [.int (1:Int32)]) (rest := []) lmM_119 cu4 (sM_found e3) ⟨Nat.le_of_ble_eq_true rfl, Nat.le_of_ble_eq_true rfl, Nat.le_of_ble_eq_true rfl, Nat.le_of_ble_eq_true rfl⟩ dM_copy_47 rfl rfl (Nat.le_of_ble_eq_true rfl) ?_
  exact v_iret (pc := 50) dM_copy_50 (by decide) (by decide) hf
def fM_copy_121 (n : Nat) (h : MH) (x0 : Nat) : Option (MH × Int32) := ((chk h x0 12).bind fun _ => (bnd2 (fM_found h x0 (2:Int32)) fun h1 i2 => (some (h1, i2))))
set_option maxRecDepth 20000 in
set_option maxHeartbeats 4000000 in
theorem tM_copy_121 {g : Gh} {h' : MH} {r' : Int32} (n : Nat) (h : MH) (x0 : Nat) (hf : fM_copy_121 n h x0 = some (h', r')) : V g yM_copy cM_copy 9 (some .int) rmM_copy (ZQ g rmM_copy h' (some (.int r'))) 0 0 h 121 [some (.ref x0), none, none, none, none, none, none, none, none] [] := by
  unfold fM_copy_121 at hf
  refine v_aload_n (i := 0) (pc := 121) dM_copy_121 rfl rfl ?_
  refine v_iconst (pc := 122) (2:Int32) dM_copy_122 rfl ?_
  obtain ⟨u4, cu4, hf⟩ := bnd hf
  obtain ⟨h1, i2, e3, hf⟩ := bndp hf
  refine v_M1 (pc := 123) (As := [.int (2:Int32)]) (rest := []) lmM_119 cu4 (sM_found e3) ⟨Nat.le_of_ble_eq_true rfl, Nat.le_of_ble_eq_true rfl, Nat.le_of_ble_eq_true rfl, Nat.le_of_ble_eq_true rfl⟩ dM_copy_123 rfl rfl (Nat.le_of_ble_eq_true rfl) ?_
  exact v_iret (pc := 126) dM_copy_126 (by decide) (by decide) hf
def fM_copy_167 (k143 : (MH × Nat × Int32 × Int32 × Int32 × Int32 × Int32 × Int32 × Int32) → Option (MH × Int32)) (n : Nat) (h : MH) (s0 : Int32) (x0 : Nat) (x1 : Int32) (x2 : Int32) (x3 : Int32) (x4 : Int32) (x5 : Int32) (x6 : Int32) (x7 : Int32) : Option (MH × Int32) := ((gfR h x0 [12] 8).bind fun a1 => ((gfR h x0 [12] 8).bind fun a2 => ((rdL h a2 ((((80:Int32) * x1) + x2) + s0)).bind fun j3 => ((wrL h a1 ((((80:Int32) * x3) + x4) + s0) j3).bind fun h4 => (k143 (h4, x0, x1, x2, x3, x4, x5, x6, (x7 + (1:Int32))))))))
set_option maxRecDepth 20000 in
set_option maxHeartbeats 4000000 in
theorem tM_copy_167 {g : Gh} {h' : MH} {r' : Int32} {k143 : (MH × Nat × Int32 × Int32 × Int32 × Int32 × Int32 × Int32 × Int32) → Option (MH × Int32)} (hk143 : ∀ (h : MH) (x0 : Nat) (x1 : Int32) (x2 : Int32) (x3 : Int32) (x4 : Int32) (x5 : Int32) (x6 : Int32) (x7 : Int32), k143 (h, x0, x1, x2, x3, x4, x5, x6, x7) = some (h', r') → V g yM_copy cM_copy 9 (some .int) rmM_copy (ZQ g rmM_copy h' (some (.int r'))) 0 0 h 143 [some (.ref x0), some (.int x1), some (.int x2), some (.int x3), some (.int x4), some (.int x5), some (.int x6), some (.int x7), none] []) (n : Nat) (h : MH) (s0 : Int32) (x0 : Nat) (x1 : Int32) (x2 : Int32) (x3 : Int32) (x4 : Int32) (x5 : Int32) (x6 : Int32) (x7 : Int32) (hf : fM_copy_167 k143 n h s0 x0 x1 x2 x3 x4 x5 x6 x7 = some (h', r')) : V g yM_copy cM_copy 9 (some .int) rmM_copy (ZQ g rmM_copy h' (some (.int r'))) 0 0 h 167 [some (.ref x0), some (.int x1), some (.int x2), some (.int x3), some (.int x4), some (.int x5), some (.int x6), some (.int x7), none] [.int s0] := by
  unfold fM_copy_167 at hf
  refine v_istore (pc := 167) (ls' := [some (.ref x0), some (.int x1), some (.int x2), some (.int x3), some (.int x4), some (.int x5), some (.int x6), some (.int x7), some (.int s0)]) dM_copy_167 (by decide) rfl ?_
  refine v_aload_n (i := 0) (pc := 169) dM_copy_169 rfl rfl ?_
  refine v_getR (pc := 170) fgM_33 dM_copy_170 hf (fun a1 hf => ?_)
  refine v_bipush (pc := 173) (80:Int32) dM_copy_173 rfl ?_
  refine v_iload_n (i := 3) (pc := 175) dM_copy_175 rfl rfl ?_
  refine v_imul (pc := 176) dM_copy_176 ?_
  refine v_iload (pc := 177) dM_copy_177 rfl ?_
  refine v_iadd (pc := 179) dM_copy_179 ?_
  refine v_iload (pc := 180) dM_copy_180 rfl ?_
  refine v_iadd (pc := 182) dM_copy_182 ?_
  refine v_aload_n (i := 0) (pc := 183) dM_copy_183 rfl rfl ?_
  refine v_getR (pc := 184) fgM_33 dM_copy_184 hf (fun a2 hf => ?_)
  refine v_bipush (pc := 187) (80:Int32) dM_copy_187 rfl ?_
  refine v_iload_n (i := 1) (pc := 189) dM_copy_189 rfl rfl ?_
  refine v_imul (pc := 190) dM_copy_190 ?_
  refine v_iload_n (i := 2) (pc := 191) dM_copy_191 rfl rfl ?_
  refine v_iadd (pc := 192) dM_copy_192 ?_
  refine v_iload (pc := 193) dM_copy_193 rfl ?_
  refine v_iadd (pc := 195) dM_copy_195 ?_
  refine v_lald (pc := 196) dM_copy_196 hf (fun j3 hf => ?_)
  refine v_last (pc := 197) dM_copy_197 hf (fun h4 hf => ?_)
  refine v_iinc (pc := 198) (v := (x7 + (1:Int32))) (ls' := [some (.ref x0), some (.int x1), some (.int x2), some (.int x3), some (.int x4), some (.int x5), some (.int x6), some (.int (x7 + (1:Int32))), some (.int s0)]) dM_copy_198 rfl rfl (by decide) rfl ?_
  refine v_goto (pc := 201) (tgt := 143) dM_copy_201 rfl ?_
  refine v_wk (ls' := [some (.ref x0), some (.int x1), some (.int x2), some (.int x3), some (.int x4), some (.int x5), some (.int x6), some (.int (x7 + (1:Int32))), none]) ⟨rfl, rfl, rfl, rfl, rfl, rfl, rfl, rfl, trivial⟩ ?_
  exact hk143 h4 x0 x1 x2 x3 x4 x5 x6 (x7 + (1:Int32)) hf
def bM_copy_143 (n : Nat) (k143 : (MH × Nat × Int32 × Int32 × Int32 × Int32 × Int32 × Int32 × Int32) → Option (MH × Int32)) (h : MH) (x0 : Nat) (x1 : Int32) (x2 : Int32) (x3 : Int32) (x4 : Int32) (x5 : Int32) (x6 : Int32) (x7 : Int32) : Option (MH × Int32) := (if x5 ≤ x7 then (some (h, x5)) else (if x6 = (0:Int32) then (fM_copy_167 k143 n h ((x5 - (1:Int32)) - x7) x0 x1 x2 x3 x4 x5 x6 x7) else (fM_copy_167 k143 n h x7 x0 x1 x2 x3 x4 x5 x6 x7)))
def fM_copy_143 (n : Nat) (h : MH) (x0 : Nat) (x1 : Int32) (x2 : Int32) (x3 : Int32) (x4 : Int32) (x5 : Int32) (x6 : Int32) (x7 : Int32) : Option (MH × Int32) := lp (fun n k s => bM_copy_143 n k s.1 s.2.1 s.2.2.1 s.2.2.2.1 s.2.2.2.2.1 s.2.2.2.2.2.1 s.2.2.2.2.2.2.1 s.2.2.2.2.2.2.2.1 s.2.2.2.2.2.2.2.2) n (h, x0, x1, x2, x3, x4, x5, x6, x7)
set_option maxRecDepth 20000 in
set_option maxHeartbeats 4000000 in
theorem tM_copy_143 {g : Gh} {h' : MH} {r' : Int32} (n : Nat) (h : MH) (x0 : Nat) (x1 : Int32) (x2 : Int32) (x3 : Int32) (x4 : Int32) (x5 : Int32) (x6 : Int32) (x7 : Int32) (hf : fM_copy_143 n h x0 x1 x2 x3 x4 x5 x6 x7 = some (h', r')) : V g yM_copy cM_copy 9 (some .int) rmM_copy (ZQ g rmM_copy h' (some (.int r'))) 0 0 h 143 [some (.ref x0), some (.int x1), some (.int x2), some (.int x3), some (.int x4), some (.int x5), some (.int x6), some (.int x7), none] [] := by
  unfold fM_copy_143 at hf
  refine lp_ind (P := fun s => V g yM_copy cM_copy 9 (some .int) rmM_copy (ZQ g rmM_copy h' (some (.int r'))) 0 0 s.1 143 [some (.ref s.2.1), some (.int s.2.2.1), some (.int s.2.2.2.1), some (.int s.2.2.2.2.1), some (.int s.2.2.2.2.2.1), some (.int s.2.2.2.2.2.2.1), some (.int s.2.2.2.2.2.2.2.1), some (.int s.2.2.2.2.2.2.2.2), none] []) (fun n k143 hk143 s hf => ?_) n (h, x0, x1, x2, x3, x4, x5, x6, x7) hf
  obtain ⟨h, x0, x1, x2, x3, x4, x5, x6, x7⟩ := s
  replace hk143 : ∀ (h : MH) (x0 : Nat) (x1 : Int32) (x2 : Int32) (x3 : Int32) (x4 : Int32) (x5 : Int32) (x6 : Int32) (x7 : Int32), k143 (h, x0, x1, x2, x3, x4, x5, x6, x7) = some (h', r') → V g yM_copy cM_copy 9 (some .int) rmM_copy (ZQ g rmM_copy h' (some (.int r'))) 0 0 h 143 [some (.ref x0), some (.int x1), some (.int x2), some (.int x3), some (.int x4), some (.int x5), some (.int x6), some (.int x7), none] [] := fun h x0 x1 x2 x3 x4 x5 x6 x7 => hk143 (h, x0, x1, x2, x3, x4, x5, x6, x7)
  replace hf : bM_copy_143 n k143 h x0 x1 x2 x3 x4 x5 x6 x7 = some (h', r') := hf
  change V g yM_copy cM_copy 9 (some .int) rmM_copy (ZQ g rmM_copy h' (some (.int r'))) 0 0 h 143 [some (.ref x0), some (.int x1), some (.int x2), some (.int x3), some (.int x4), some (.int x5), some (.int x6), some (.int x7), none] []
  unfold bM_copy_143 at hf
  refine v_iload (pc := 143) dM_copy_143 rfl ?_
  refine v_iload (pc := 145) dM_copy_145 rfl ?_
  refine v_icmp_ge (pc := 147) (tgt := 204) dM_copy_147 rfl hf (fun hf => ?_) (fun hf => ?_)
  · refine v_iload (pc := 204) dM_copy_204 rfl ?_
    exact v_iret (pc := 206) dM_copy_206 (by decide) (by decide) hf
  refine v_iload (pc := 150) dM_copy_150 rfl ?_
  refine v_if_eq (pc := 152) (tgt := 160) dM_copy_152 rfl hf (fun hf => ?_) (fun hf => ?_)
  rotate_left
  · refine v_iload (pc := 155) dM_copy_155 rfl ?_
    refine v_goto (pc := 157) (tgt := 167) dM_copy_157 rfl ?_
    refine v_wk (ls' := [some (.ref x0), some (.int x1), some (.int x2), some (.int x3), some (.int x4), some (.int x5), some (.int x6), some (.int x7), none]) ⟨rfl, rfl, rfl, rfl, rfl, rfl, rfl, rfl, trivial⟩ ?_
    exact tM_copy_167 hk143 n h x7 x0 x1 x2 x3 x4 x5 x6 x7 hf
  refine v_iload (pc := 160) dM_copy_160 rfl ?_
  refine v_iconst (pc := 162) (1:Int32) dM_copy_162 rfl ?_
  refine v_isub (pc := 163) dM_copy_163 ?_
  refine v_iload (pc := 164) dM_copy_164 rfl ?_
  refine v_isub (pc := 166) dM_copy_166 ?_
  refine v_wk (ls' := [some (.ref x0), some (.int x1), some (.int x2), some (.int x3), some (.int x4), some (.int x5), some (.int x6), some (.int x7), none]) ⟨rfl, rfl, rfl, rfl, rfl, rfl, rfl, rfl, trivial⟩ ?_
  exact tM_copy_167 hk143 n h ((x5 - (1:Int32)) - x7) x0 x1 x2 x3 x4 x5 x6 x7 hf
def fM_copy_138 (n : Nat) (h : MH) (s0 : Int32) (x0 : Nat) (x1 : Int32) (x2 : Int32) (x3 : Int32) (x4 : Int32) (x5 : Int32) : Option (MH × Int32) := (fM_copy_143 n h x0 x1 x2 x3 x4 x5 s0 (0:Int32))
set_option maxRecDepth 20000 in
set_option maxHeartbeats 4000000 in
theorem tM_copy_138 {g : Gh} {h' : MH} {r' : Int32} (n : Nat) (h : MH) (s0 : Int32) (x0 : Nat) (x1 : Int32) (x2 : Int32) (x3 : Int32) (x4 : Int32) (x5 : Int32) (hf : fM_copy_138 n h s0 x0 x1 x2 x3 x4 x5 = some (h', r')) : V g yM_copy cM_copy 9 (some .int) rmM_copy (ZQ g rmM_copy h' (some (.int r'))) 0 0 h 138 [some (.ref x0), some (.int x1), some (.int x2), some (.int x3), some (.int x4), some (.int x5), none, none, none] [.int s0] := by
  unfold fM_copy_138 at hf
  refine v_istore (pc := 138) (ls' := [some (.ref x0), some (.int x1), some (.int x2), some (.int x3), some (.int x4), some (.int x5), some (.int s0), none, none]) dM_copy_138 (by decide) rfl ?_
  refine v_iconst (pc := 140) (0:Int32) dM_copy_140 rfl ?_
  refine v_istore (pc := 141) (ls' := [some (.ref x0), some (.int x1), some (.int x2), some (.int x3), some (.int x4), some (.int x5), some (.int s0), some (.int (0:Int32)), none]) dM_copy_141 (by decide) rfl ?_
  refine v_wk (ls' := [some (.ref x0), some (.int x1), some (.int x2), some (.int x3), some (.int x4), some (.int x5), some (.int s0), some (.int (0:Int32)), none]) ⟨rfl, rfl, rfl, rfl, rfl, rfl, rfl, rfl, trivial⟩ ?_
  exact tM_copy_143 n h x0 x1 x2 x3 x4 x5 s0 (0:Int32) hf
def fM_copy (n : Nat) (h : MH) (a_0 : Nat) (i_1 : Int32) (i_2 : Int32) (i_3 : Int32) (i_4 : Int32) (i_5 : Int32) : Option (MH × Int32) := ((pf h a_0 [12] 0 (.int (0:Int32))).bind fun h1 => (bnd2 (fM_isSheet h1 i_1) fun h2 i3 => (if i3 = (0:Int32) then (some (h2, (-1000001:Int32))) else (bnd2 (fM_isSheet h2 i_3) fun h4 i5 => (if i5 = (0:Int32) then (some (h4, (-1000001:Int32))) else ((pf h4 a_0 [12] 1 (.int (0:Int32))).bind fun h6 => ((gfR h6 a_0 [12] 6).bind fun a7 => ((rdI h6 a7 i_1).bind fun i8 => (if i8 < (0:Int32) then (fM_copy_45 n h6 a_0) else ((gfR h6 a_0 [12] 6).bind fun a9 => ((rdI h6 a9 i_3).bind fun i10 => (if (0:Int32) ≤ i10 then ((gfR h6 a_0 [12] 6).bind fun a11 => ((rdI h6 a11 i_1).bind fun i12 => ((gfR h6 a_0 [12] 6).bind fun a13 => ((rdI h6 a13 i_3).bind fun i14 => (if i12 = i14 then (if i_2 < (0:Int32) then (fM_copy_121 n h6 a_0) else (if i_4 < (0:Int32) then (fM_copy_121 n h6 a_0) else (if i_5 < (0:Int32) then (fM_copy_121 n h6 a_0) else ((gfR h6 a_0 [12] 7).bind fun a15 => ((rdI h6 a15 i_1).bind fun i16 => (if i16.toInt64 < (i_2.toInt64 + i_5.toInt64) then (fM_copy_121 n h6 a_0) else ((gfR h6 a_0 [12] 7).bind fun a17 => ((rdI h6 a17 i_3).bind fun i18 => (if (i_4.toInt64 + i_5.toInt64) ≤ i18.toInt64 then (if i_2 < i_4 then (fM_copy_138 n h6 (0:Int32) a_0 i_1 i_2 i_3 i_4 i_5) else (fM_copy_138 n h6 (1:Int32) a_0 i_1 i_2 i_3 i_4 i_5)) else (fM_copy_121 n h6 a_0)))))))))) else ((chk h6 a_0 12).bind fun _ => (bnd2 (fM_found h6 a_0 (5:Int32)) fun h19 i20 => (some (h19, i20))))))))) else (fM_copy_45 n h6 a_0)))))))))))))
set_option maxRecDepth 20000 in
set_option maxHeartbeats 4000000 in
theorem sM_copy {g : Gh} {h' : MH} {r' : Int32} {n : Nat} {h : MH} {a_0 : Nat} {i_1 : Int32} {i_2 : Int32} {i_3 : Int32} {i_4 : Int32} {i_5 : Int32} (hf : fM_copy n h a_0 i_1 i_2 i_3 i_4 i_5 = some (h', r')) : Sp g yM_copy cM_copy 9 (some .int) rmM_copy h [.ref a_0, .int i_1, .int i_2, .int i_3, .int i_4, .int i_5] h' (some (.int r')) := by
  refine sp_of (by decide) (Nat.le_of_ble_eq_true rfl) ?_
  change V g yM_copy cM_copy 9 (some .int) rmM_copy (ZQ g rmM_copy h' (some (.int r'))) 0 0 h 0 [some (.ref a_0), some (.int i_1), some (.int i_2), some (.int i_3), some (.int i_4), some (.int i_5), none, none, none] []
  unfold fM_copy at hf
  refine v_aload_n (i := 0) (pc := 0) dM_copy_0 rfl rfl ?_
  refine v_iconst (pc := 1) (0:Int32) dM_copy_1 rfl ?_
  refine v_put (pc := 2) fpM_1 (fun _ => ⟨rfl, rfl⟩) dM_copy_2 hf (fun h1 hf => ?_)
  refine v_iload_n (i := 1) (pc := 5) dM_copy_5 rfl rfl ?_
  obtain ⟨h2, i3, e24, hf⟩ := bndp hf
  refine v_S1 (pc := 6) (As := [.int i_1]) (rest := []) lsM_114 (sM_isSheet e24) ⟨Nat.le_of_ble_eq_true rfl, Nat.le_of_ble_eq_true rfl, Nat.le_of_ble_eq_true rfl, Nat.le_of_ble_eq_true rfl⟩ dM_copy_6 rfl rfl (Nat.le_of_ble_eq_true rfl) ?_
  refine v_if_eq (pc := 9) (tgt := 19) dM_copy_9 rfl hf (fun hf => ?_) (fun hf => ?_)
  · refine v_ldc (pc := 19) dM_copy_19 kiM_90 ?_
    exact v_iret (pc := 21) dM_copy_21 (by decide) (by decide) hf
  refine v_iload_n (i := 3) (pc := 12) dM_copy_12 rfl rfl ?_
  obtain ⟨h4, i5, e23, hf⟩ := bndp hf
  refine v_S1 (pc := 13) (As := [.int i_3]) (rest := []) lsM_114 (sM_isSheet e23) ⟨Nat.le_of_ble_eq_true rfl, Nat.le_of_ble_eq_true rfl, Nat.le_of_ble_eq_true rfl, Nat.le_of_ble_eq_true rfl⟩ dM_copy_13 rfl rfl (Nat.le_of_ble_eq_true rfl) ?_
  refine v_if_ne (pc := 16) (tgt := 22) dM_copy_16 rfl hf (fun hf => ?_) (fun hf => ?_)
  · refine v_ldc (pc := 19) dM_copy_19 kiM_90 ?_
    exact v_iret (pc := 21) dM_copy_21 (by decide) (by decide) hf
  refine v_aload_n (i := 0) (pc := 22) dM_copy_22 rfl rfl ?_
  refine v_iconst (pc := 23) (0:Int32) dM_copy_23 rfl ?_
  refine v_put (pc := 24) fpM_7 (fun _ => ⟨rfl, rfl⟩) dM_copy_24 hf (fun h6 hf => ?_)
  refine v_aload_n (i := 0) (pc := 27) dM_copy_27 rfl rfl ?_
  refine v_getR (pc := 28) fgM_27 dM_copy_28 hf (fun a7 hf => ?_)
  refine v_iload_n (i := 1) (pc := 31) dM_copy_31 rfl rfl ?_
  refine v_iald (pc := 32) dM_copy_32 hf (fun i8 hf => ?_)
  refine v_if_lt (pc := 33) (tgt := 45) dM_copy_33 rfl hf (fun hf => ?_) (fun hf => ?_)
  · refine v_wk (ls' := [some (.ref a_0), none, none, none, none, none, none, none, none]) ⟨rfl, trivial⟩ ?_
    exact tM_copy_45 n h6 a_0 hf
  refine v_aload_n (i := 0) (pc := 36) dM_copy_36 rfl rfl ?_
  refine v_getR (pc := 37) fgM_27 dM_copy_37 hf (fun a9 hf => ?_)
  refine v_iload_n (i := 3) (pc := 40) dM_copy_40 rfl rfl ?_
  refine v_iald (pc := 41) dM_copy_41 hf (fun i10 hf => ?_)
  refine v_if_ge (pc := 42) (tgt := 51) dM_copy_42 rfl hf (fun hf => ?_) (fun hf => ?_)
  rotate_left
  · refine v_wk (ls' := [some (.ref a_0), none, none, none, none, none, none, none, none]) ⟨rfl, trivial⟩ ?_
    exact tM_copy_45 n h6 a_0 hf
  refine v_aload_n (i := 0) (pc := 51) dM_copy_51 rfl rfl ?_
  refine v_getR (pc := 52) fgM_27 dM_copy_52 hf (fun a11 hf => ?_)
  refine v_iload_n (i := 1) (pc := 55) dM_copy_55 rfl rfl ?_
  refine v_iald (pc := 56) dM_copy_56 hf (fun i12 hf => ?_)
  refine v_aload_n (i := 0) (pc := 57) dM_copy_57 rfl rfl ?_
  refine v_getR (pc := 58) fgM_27 dM_copy_58 hf (fun a13 hf => ?_)
  refine v_iload_n (i := 3) (pc := 61) dM_copy_61 rfl rfl ?_
  refine v_iald (pc := 62) dM_copy_62 hf (fun i14 hf => ?_)
  refine v_icmp_eq (pc := 63) (tgt := 72) dM_copy_63 rfl hf (fun hf => ?_) (fun hf => ?_)
  rotate_left
  · refine v_aload_n (i := 0) (pc := 66) dM_copy_66 rfl rfl ?_
    refine v_iconst (pc := 67) (5:Int32) dM_copy_67 rfl ?_
    obtain ⟨u22, cu22, hf⟩ := bnd hf
    obtain ⟨h19, i20, e21, hf⟩ := bndp hf
    refine v_M1 (pc := 68) (As := [.int (5:Int32)]) (rest := []) lmM_119 cu22 (sM_found e21) ⟨Nat.le_of_ble_eq_true rfl, Nat.le_of_ble_eq_true rfl, Nat.le_of_ble_eq_true rfl, Nat.le_of_ble_eq_true rfl⟩ dM_copy_68 rfl rfl (Nat.le_of_ble_eq_true rfl) ?_
    exact v_iret (pc := 71) dM_copy_71 (by decide) (by decide) hf
  refine v_iload_n (i := 2) (pc := 72) dM_copy_72 rfl rfl ?_
  refine v_if_lt (pc := 73) (tgt := 121) dM_copy_73 rfl hf (fun hf => ?_) (fun hf => ?_)
  · refine v_wk (ls' := [some (.ref a_0), none, none, none, none, none, none, none, none]) ⟨rfl, trivial⟩ ?_
    exact tM_copy_121 n h6 a_0 hf
  refine v_iload (pc := 76) dM_copy_76 rfl ?_
  refine v_if_lt (pc := 78) (tgt := 121) dM_copy_78 rfl hf (fun hf => ?_) (fun hf => ?_)
  · refine v_wk (ls' := [some (.ref a_0), none, none, none, none, none, none, none, none]) ⟨rfl, trivial⟩ ?_
    exact tM_copy_121 n h6 a_0 hf
  refine v_iload (pc := 81) dM_copy_81 rfl ?_
  refine v_if_lt (pc := 83) (tgt := 121) dM_copy_83 rfl hf (fun hf => ?_) (fun hf => ?_)
  · refine v_wk (ls' := [some (.ref a_0), none, none, none, none, none, none, none, none]) ⟨rfl, trivial⟩ ?_
    exact tM_copy_121 n h6 a_0 hf
  refine v_iload_n (i := 2) (pc := 86) dM_copy_86 rfl rfl ?_
  refine v_i2l (pc := 87) dM_copy_87 ?_
  refine v_iload (pc := 88) dM_copy_88 rfl ?_
  refine v_i2l (pc := 90) dM_copy_90 ?_
  refine v_ladd (pc := 91) dM_copy_91 ?_
  refine v_aload_n (i := 0) (pc := 92) dM_copy_92 rfl rfl ?_
  refine v_getR (pc := 93) fgM_30 dM_copy_93 hf (fun a15 hf => ?_)
  refine v_iload_n (i := 1) (pc := 96) dM_copy_96 rfl rfl ?_
  refine v_iald (pc := 97) dM_copy_97 hf (fun i16 hf => ?_)
  refine v_i2l (pc := 98) dM_copy_98 ?_
  refine v_lcmp_gt (pc := 99) (tgt := 121) dM_copy_99 dM_copy_100 rfl hf (fun hf => ?_) (fun hf => ?_)
  · refine v_wk (ls' := [some (.ref a_0), none, none, none, none, none, none, none, none]) ⟨rfl, trivial⟩ ?_
    exact tM_copy_121 n h6 a_0 hf
  refine v_iload (pc := 103) dM_copy_103 rfl ?_
  refine v_i2l (pc := 105) dM_copy_105 ?_
  refine v_iload (pc := 106) dM_copy_106 rfl ?_
  refine v_i2l (pc := 108) dM_copy_108 ?_
  refine v_ladd (pc := 109) dM_copy_109 ?_
  refine v_aload_n (i := 0) (pc := 110) dM_copy_110 rfl rfl ?_
  refine v_getR (pc := 111) fgM_30 dM_copy_111 hf (fun a17 hf => ?_)
  refine v_iload_n (i := 3) (pc := 114) dM_copy_114 rfl rfl ?_
  refine v_iald (pc := 115) dM_copy_115 hf (fun i18 hf => ?_)
  refine v_i2l (pc := 116) dM_copy_116 ?_
  refine v_lcmp_le (pc := 117) (tgt := 127) dM_copy_117 dM_copy_118 rfl hf (fun hf => ?_) (fun hf => ?_)
  rotate_left
  · refine v_wk (ls' := [some (.ref a_0), none, none, none, none, none, none, none, none]) ⟨rfl, trivial⟩ ?_
    exact tM_copy_121 n h6 a_0 hf
  refine v_iload_n (i := 2) (pc := 127) dM_copy_127 rfl rfl ?_
  refine v_iload (pc := 128) dM_copy_128 rfl ?_
  refine v_icmp_lt (pc := 130) (tgt := 137) dM_copy_130 rfl hf (fun hf => ?_) (fun hf => ?_)
  · refine v_iconst (pc := 137) (0:Int32) dM_copy_137 rfl ?_
    refine v_wk (ls' := [some (.ref a_0), some (.int i_1), some (.int i_2), some (.int i_3), some (.int i_4), some (.int i_5), none, none, none]) ⟨rfl, rfl, rfl, rfl, rfl, rfl, trivial⟩ ?_
    exact tM_copy_138 n h6 (0:Int32) a_0 i_1 i_2 i_3 i_4 i_5 hf
  refine v_iconst (pc := 133) (1:Int32) dM_copy_133 rfl ?_
  refine v_goto (pc := 134) (tgt := 138) dM_copy_134 rfl ?_
  refine v_wk (ls' := [some (.ref a_0), some (.int i_1), some (.int i_2), some (.int i_3), some (.int i_4), some (.int i_5), none, none, none]) ⟨rfl, rfl, rfl, rfl, rfl, rfl, trivial⟩ ?_
  exact tM_copy_138 n h6 (1:Int32) a_0 i_1 i_2 i_3 i_4 i_5 hf
abbrev rmM_drop : Room := { frames := 2, cells := 0, slots := 0, locals := 45 }
def fM_drop (h : MH) (a_0 : Nat) (i_1 : Int32) : Option (MH × Int32) := ((pf h a_0 [12] 0 (.int (0:Int32))).bind fun h1 => (bnd2 (fM_isSheet h1 i_1) fun h2 i3 => (if i3 = (0:Int32) then (some (h2, (-1000001:Int32))) else ((pf h2 a_0 [12] 1 (.int (0:Int32))).bind fun h4 => ((gfR h4 a_0 [12] 6).bind fun a5 => ((rdI h4 a5 i_1).bind fun i6 => (if (0:Int32) ≤ i6 then ((gfR h4 a_0 [12] 6).bind fun a7 => ((wrI h4 a7 i_1 (-1:Int32)).bind fun h8 => ((gfR h8 a_0 [12] 7).bind fun a9 => ((rdI h8 a9 i_1).bind fun i10 => (some (h8, i10)))))) else ((chk h4 a_0 12).bind fun _ => (bnd2 (fM_found h4 a_0 (1:Int32)) fun h11 i12 => (some (h11, i12)))))))))))
set_option maxRecDepth 20000 in
set_option maxHeartbeats 4000000 in
theorem sM_drop {g : Gh} {h' : MH} {r' : Int32} {h : MH} {a_0 : Nat} {i_1 : Int32} (hf : fM_drop h a_0 i_1 = some (h', r')) : Sp g yM_drop cM_drop 2 (some .int) rmM_drop h [.ref a_0, .int i_1] h' (some (.int r')) := by
  refine sp_of (by decide) (Nat.le_of_ble_eq_true rfl) ?_
  change V g yM_drop cM_drop 2 (some .int) rmM_drop (ZQ g rmM_drop h' (some (.int r'))) 0 0 h 0 [some (.ref a_0), some (.int i_1)] []
  unfold fM_drop at hf
  refine v_aload_n (i := 0) (pc := 0) dM_drop_0 rfl rfl ?_
  refine v_iconst (pc := 1) (0:Int32) dM_drop_1 rfl ?_
  refine v_put (pc := 2) fpM_1 (fun _ => ⟨rfl, rfl⟩) dM_drop_2 hf (fun h1 hf => ?_)
  refine v_iload_n (i := 1) (pc := 5) dM_drop_5 rfl rfl ?_
  obtain ⟨h2, i3, e15, hf⟩ := bndp hf
  refine v_S1 (pc := 6) (As := [.int i_1]) (rest := []) lsM_114 (sM_isSheet e15) ⟨Nat.le_of_ble_eq_true rfl, Nat.le_of_ble_eq_true rfl, Nat.le_of_ble_eq_true rfl, Nat.le_of_ble_eq_true rfl⟩ dM_drop_6 rfl rfl (Nat.le_of_ble_eq_true rfl) ?_
  refine v_if_ne (pc := 9) (tgt := 15) dM_drop_9 rfl hf (fun hf => ?_) (fun hf => ?_)
  · refine v_ldc (pc := 12) dM_drop_12 kiM_90 ?_
    exact v_iret (pc := 14) dM_drop_14 (by decide) (by decide) hf
  refine v_aload_n (i := 0) (pc := 15) dM_drop_15 rfl rfl ?_
  refine v_iconst (pc := 16) (0:Int32) dM_drop_16 rfl ?_
  refine v_put (pc := 17) fpM_7 (fun _ => ⟨rfl, rfl⟩) dM_drop_17 hf (fun h4 hf => ?_)
  refine v_aload_n (i := 0) (pc := 20) dM_drop_20 rfl rfl ?_
  refine v_getR (pc := 21) fgM_27 dM_drop_21 hf (fun a5 hf => ?_)
  refine v_iload_n (i := 1) (pc := 24) dM_drop_24 rfl rfl ?_
  refine v_iald (pc := 25) dM_drop_25 hf (fun i6 hf => ?_)
  refine v_if_ge (pc := 26) (tgt := 35) dM_drop_26 rfl hf (fun hf => ?_) (fun hf => ?_)
  rotate_left
  · refine v_aload_n (i := 0) (pc := 29) dM_drop_29 rfl rfl ?_
    refine v_iconst (pc := 30) (1:Int32) dM_drop_30 rfl ?_
    obtain ⟨u14, cu14, hf⟩ := bnd hf
    obtain ⟨h11, i12, e13, hf⟩ := bndp hf
    refine v_M1 (pc := 31) (As := [.int (1:Int32)]) (rest := []) lmM_119 cu14 (sM_found e13) ⟨Nat.le_of_ble_eq_true rfl, Nat.le_of_ble_eq_true rfl, Nat.le_of_ble_eq_true rfl, Nat.le_of_ble_eq_true rfl⟩ dM_drop_31 rfl rfl (Nat.le_of_ble_eq_true rfl) ?_
    exact v_iret (pc := 34) dM_drop_34 (by decide) (by decide) hf
  refine v_aload_n (i := 0) (pc := 35) dM_drop_35 rfl rfl ?_
  refine v_getR (pc := 36) fgM_27 dM_drop_36 hf (fun a7 hf => ?_)
  refine v_iload_n (i := 1) (pc := 39) dM_drop_39 rfl rfl ?_
  refine v_iconst (pc := 40) (-1:Int32) dM_drop_40 rfl ?_
  refine v_iast (pc := 41) dM_drop_41 hf (fun h8 hf => ?_)
  refine v_aload_n (i := 0) (pc := 42) dM_drop_42 rfl rfl ?_
  refine v_getR (pc := 43) fgM_30 dM_drop_43 hf (fun a9 hf => ?_)
  refine v_iload_n (i := 1) (pc := 46) dM_drop_46 rfl rfl ?_
  refine v_iald (pc := 47) dM_drop_47 hf (fun i10 hf => ?_)
  exact v_iret (pc := 48) dM_drop_48 (by decide) (by decide) hf
abbrev rmM_isPlace : Room := { frames := 1, cells := 0, slots := 0, locals := 25 }
def fM_isPlace (h : MH) (i_0 : Int32) : Option (MH × Int32) := (bnd2 (fM_in h i_0.toInt64 (0:Int64) (9:Int64)) fun h1 i2 => (retZ h1 i2))
set_option maxRecDepth 20000 in
set_option maxHeartbeats 4000000 in
theorem sM_isPlace {g : Gh} {h' : MH} {r' : Int32} {h : MH} {i_0 : Int32} (hf : fM_isPlace h i_0 = some (h', r')) : Sp g yM_isPlace cM_isPlace 1 (some .boolean) rmM_isPlace h [.int i_0] h' (some (.int r')) := by
  refine sp_of (by decide) (Nat.le_of_ble_eq_true rfl) ?_
  change V g yM_isPlace cM_isPlace 1 (some .boolean) rmM_isPlace (ZQ g rmM_isPlace h' (some (.int r'))) 0 0 h 0 [some (.int i_0)] []
  unfold fM_isPlace at hf
  refine v_iload_n (i := 0) (pc := 0) dM_isPlace_0 rfl rfl ?_
  refine v_i2l (pc := 1) dM_isPlace_1 ?_
  refine v_lconst (pc := 2) (0:Int64) dM_isPlace_2 rfl ?_
  refine v_ldc2 (pc := 3) dM_isPlace_3 klM_124 ?_
  obtain ⟨h1, i2, e3, hf⟩ := bndp hf
  refine v_S1 (pc := 6) (As := [.long i_0.toInt64, .long (0:Int64), .long (9:Int64)]) (rest := []) lsM_71 (sM_in e3) ⟨Nat.le_of_ble_eq_true rfl, Nat.le_of_ble_eq_true rfl, Nat.le_of_ble_eq_true rfl, Nat.le_of_ble_eq_true rfl⟩ dM_isPlace_6 rfl rfl (Nat.le_of_ble_eq_true rfl) ?_
  exact v_zret (pc := 9) dM_isPlace_9 (by decide) (by decide) hf
abbrev rmM_modulo : Room := { frames := 0, cells := 0, slots := 0, locals := 0 }
def fM_modulo (h : MH) (a_0 : Nat) (j_1 : Int64) : Option (MH × Int64) := ((gfI h a_0 [12] 2).bind fun i1 => (nzL i1.toInt64 (if (0:Int64) ≤ (lrm j_1 i1.toInt64) then (some (h, (lrm j_1 i1.toInt64))) else ((gfI h a_0 [12] 2).bind fun i2 => (some (h, ((lrm j_1 i1.toInt64) + i2.toInt64)))))))
set_option maxRecDepth 20000 in
set_option maxHeartbeats 4000000 in
theorem sM_modulo {g : Gh} {h' : MH} {r' : Int64} {h : MH} {a_0 : Nat} {j_1 : Int64} (hf : fM_modulo h a_0 j_1 = some (h', r')) : Sp g yM_modulo cM_modulo 5 (some .long) rmM_modulo h [.ref a_0, .long j_1] h' (some (.long r')) := by
  refine sp_of (by decide) (Nat.le_of_ble_eq_true rfl) ?_
  change V g yM_modulo cM_modulo 5 (some .long) rmM_modulo (ZQ g rmM_modulo h' (some (.long r'))) 0 0 h 0 [some (.ref a_0), some (.long j_1), none, none, none] []
  unfold fM_modulo at hf
  refine v_lload_n (i := 1) (pc := 0) dM_modulo_0 rfl rfl ?_
  refine v_aload_n (i := 0) (pc := 1) dM_modulo_1 rfl rfl ?_
  refine v_getI (pc := 2) fgM_80 dM_modulo_2 hf (fun i1 hf => ?_)
  refine v_i2l (pc := 5) dM_modulo_5 ?_
  obtain ⟨z3, hf⟩ := nzL_of hf
  refine v_lrem (pc := 6) dM_modulo_6 z3 ?_
  refine v_lstore_n (i := 3) (pc := 7) (ls' := [some (.ref a_0), some (.long j_1), none, some (.long (lrm j_1 i1.toInt64)), none]) dM_modulo_7 rfl (by decide) rfl ?_
  refine v_lload_n (i := 3) (pc := 8) dM_modulo_8 rfl rfl ?_
  refine v_lconst (pc := 9) (0:Int64) dM_modulo_9 rfl ?_
  refine v_lcmp_ge (pc := 10) (tgt := 24) dM_modulo_10 dM_modulo_11 rfl hf (fun hf => ?_) (fun hf => ?_)
  · refine v_lload_n (i := 3) (pc := 24) dM_modulo_24 rfl rfl ?_
    exact v_lret (pc := 25) dM_modulo_25 (by decide) (by decide) hf
  refine v_lload_n (i := 3) (pc := 14) dM_modulo_14 rfl rfl ?_
  refine v_aload_n (i := 0) (pc := 15) dM_modulo_15 rfl rfl ?_
  refine v_getI (pc := 16) fgM_80 dM_modulo_16 hf (fun i2 hf => ?_)
  refine v_i2l (pc := 19) dM_modulo_19 ?_
  refine v_ladd (pc := 20) dM_modulo_20 ?_
  refine v_goto (pc := 21) (tgt := 25) dM_modulo_21 rfl ?_
  exact v_lret (pc := 25) dM_modulo_25 (by decide) (by decide) hf
abbrev rmM_inverse : Room := { frames := 0, cells := 0, slots := 0, locals := 0 }
def fM_inverse_40 (k13 : (MH × Nat × Int64 × Int64 × Int32) → Option (MH × Int64)) (n : Nat) (h : MH) (s0 : Int64) (x0 : Nat) (x5 : Int64) (x7 : Int32) : Option (MH × Int64) := ((gfI h x0 [12] 2).bind fun i1 => (nzL i1.toInt64 (k13 (h, x0, s0, (lrm (x5 * x5) i1.toInt64), (x7 / (2:Int32))))))
set_option maxRecDepth 20000 in
set_option maxHeartbeats 4000000 in
theorem tM_inverse_40 {g : Gh} {h' : MH} {r' : Int64} {k13 : (MH × Nat × Int64 × Int64 × Int32) → Option (MH × Int64)} (hk13 : ∀ (h : MH) (x0 : Nat) (x3 : Int64) (x5 : Int64) (x7 : Int32), k13 (h, x0, x3, x5, x7) = some (h', r') → V g yM_inverse cM_inverse 8 (some .long) rmM_inverse (ZQ g rmM_inverse h' (some (.long r'))) 0 0 h 13 [some (.ref x0), none, none, some (.long x3), none, some (.long x5), none, some (.int x7)] []) (n : Nat) (h : MH) (s0 : Int64) (x0 : Nat) (x5 : Int64) (x7 : Int32) (hf : fM_inverse_40 k13 n h s0 x0 x5 x7 = some (h', r')) : V g yM_inverse cM_inverse 8 (some .long) rmM_inverse (ZQ g rmM_inverse h' (some (.long r'))) 0 0 h 40 [some (.ref x0), none, none, none, none, some (.long x5), none, some (.int x7)] [.long s0] := by
  unfold fM_inverse_40 at hf
  refine v_lstore_n (i := 3) (pc := 40) (ls' := [some (.ref x0), none, none, some (.long s0), none, some (.long x5), none, some (.int x7)]) dM_inverse_40 rfl (by decide) rfl ?_
  refine v_lload (pc := 41) dM_inverse_41 rfl ?_
  refine v_lload (pc := 43) dM_inverse_43 rfl ?_
  refine v_lmul (pc := 45) dM_inverse_45 ?_
  refine v_aload_n (i := 0) (pc := 46) dM_inverse_46 rfl rfl ?_
  refine v_getI (pc := 47) fgM_80 dM_inverse_47 hf (fun i1 hf => ?_)
  refine v_i2l (pc := 50) dM_inverse_50 ?_
  obtain ⟨z2, hf⟩ := nzL_of hf
  refine v_lrem (pc := 51) dM_inverse_51 z2 ?_
  refine v_lstore (pc := 52) (ls' := [some (.ref x0), none, none, some (.long s0), none, some (.long (lrm (x5 * x5) i1.toInt64)), none, some (.int x7)]) dM_inverse_52 (by decide) rfl ?_
  refine v_iload (pc := 54) dM_inverse_54 rfl ?_
  refine v_iconst (pc := 56) (2:Int32) dM_inverse_56 rfl ?_
  refine v_idiv (pc := 57) dM_inverse_57 (by decide) ?_
  refine v_istore (pc := 58) (ls' := [some (.ref x0), none, none, some (.long s0), none, some (.long (lrm (x5 * x5) i1.toInt64)), none, some (.int (x7 / (2:Int32)))]) dM_inverse_58 (by decide) rfl ?_
  refine v_goto (pc := 60) (tgt := 13) dM_inverse_60 rfl ?_
  refine v_wk (ls' := [some (.ref x0), none, none, some (.long s0), none, some (.long (lrm (x5 * x5) i1.toInt64)), none, some (.int (x7 / (2:Int32)))]) ⟨rfl, rfl, rfl, rfl, trivial⟩ ?_
  exact hk13 h x0 s0 (lrm (x5 * x5) i1.toInt64) (x7 / (2:Int32)) hf
def bM_inverse_13 (n : Nat) (k13 : (MH × Nat × Int64 × Int64 × Int32) → Option (MH × Int64)) (h : MH) (x0 : Nat) (x3 : Int64) (x5 : Int64) (x7 : Int32) : Option (MH × Int64) := (if x7 ≤ (0:Int32) then (some (h, x3)) else (if (irm x7 (2:Int32)) = (1:Int32) then ((gfI h x0 [12] 2).bind fun i1 => (nzL i1.toInt64 (fM_inverse_40 k13 n h (lrm (x3 * x5) i1.toInt64) x0 x5 x7))) else (fM_inverse_40 k13 n h x3 x0 x5 x7)))
def fM_inverse_13 (n : Nat) (h : MH) (x0 : Nat) (x3 : Int64) (x5 : Int64) (x7 : Int32) : Option (MH × Int64) := lp (fun n k s => bM_inverse_13 n k s.1 s.2.1 s.2.2.1 s.2.2.2.1 s.2.2.2.2) n (h, x0, x3, x5, x7)
set_option maxRecDepth 20000 in
set_option maxHeartbeats 4000000 in
theorem tM_inverse_13 {g : Gh} {h' : MH} {r' : Int64} (n : Nat) (h : MH) (x0 : Nat) (x3 : Int64) (x5 : Int64) (x7 : Int32) (hf : fM_inverse_13 n h x0 x3 x5 x7 = some (h', r')) : V g yM_inverse cM_inverse 8 (some .long) rmM_inverse (ZQ g rmM_inverse h' (some (.long r'))) 0 0 h 13 [some (.ref x0), none, none, some (.long x3), none, some (.long x5), none, some (.int x7)] [] := by
  unfold fM_inverse_13 at hf
  refine lp_ind (P := fun s => V g yM_inverse cM_inverse 8 (some .long) rmM_inverse (ZQ g rmM_inverse h' (some (.long r'))) 0 0 s.1 13 [some (.ref s.2.1), none, none, some (.long s.2.2.1), none, some (.long s.2.2.2.1), none, some (.int s.2.2.2.2)] []) (fun n k13 hk13 s hf => ?_) n (h, x0, x3, x5, x7) hf
  obtain ⟨h, x0, x3, x5, x7⟩ := s
  replace hk13 : ∀ (h : MH) (x0 : Nat) (x3 : Int64) (x5 : Int64) (x7 : Int32), k13 (h, x0, x3, x5, x7) = some (h', r') → V g yM_inverse cM_inverse 8 (some .long) rmM_inverse (ZQ g rmM_inverse h' (some (.long r'))) 0 0 h 13 [some (.ref x0), none, none, some (.long x3), none, some (.long x5), none, some (.int x7)] [] := fun h x0 x3 x5 x7 => hk13 (h, x0, x3, x5, x7)
  replace hf : bM_inverse_13 n k13 h x0 x3 x5 x7 = some (h', r') := hf
  change V g yM_inverse cM_inverse 8 (some .long) rmM_inverse (ZQ g rmM_inverse h' (some (.long r'))) 0 0 h 13 [some (.ref x0), none, none, some (.long x3), none, some (.long x5), none, some (.int x7)] []
  unfold bM_inverse_13 at hf
  refine v_iload (pc := 13) dM_inverse_13 rfl ?_
  refine v_if_le (pc := 15) (tgt := 63) dM_inverse_15 rfl hf (fun hf => ?_) (fun hf => ?_)
  · refine v_lload_n (i := 3) (pc := 63) dM_inverse_63 rfl rfl ?_
    exact v_lret (pc := 64) dM_inverse_64 (by decide) (by decide) hf
  refine v_iload (pc := 18) dM_inverse_18 rfl ?_
  refine v_iconst (pc := 20) (2:Int32) dM_inverse_20 rfl ?_
  refine v_irem (pc := 21) dM_inverse_21 (by decide) ?_
  refine v_iconst (pc := 22) (1:Int32) dM_inverse_22 rfl ?_
  refine v_icmp_ne (pc := 23) (tgt := 39) dM_inverse_23 rfl hf (fun hf => ?_) (fun hf => ?_)
  rotate_left
  · refine v_lload_n (i := 3) (pc := 39) dM_inverse_39 rfl rfl ?_
    refine v_wk (ls' := [some (.ref x0), none, none, none, none, some (.long x5), none, some (.int x7)]) ⟨rfl, rfl, rfl, trivial⟩ ?_
    exact tM_inverse_40 hk13 n h x3 x0 x5 x7 hf
  refine v_lload_n (i := 3) (pc := 26) dM_inverse_26 rfl rfl ?_
  refine v_lload (pc := 27) dM_inverse_27 rfl ?_
  refine v_lmul (pc := 29) dM_inverse_29 ?_
  refine v_aload_n (i := 0) (pc := 30) dM_inverse_30 rfl rfl ?_
  refine v_getI (pc := 31) fgM_80 dM_inverse_31 hf (fun i1 hf => ?_)
  refine v_i2l (pc := 34) dM_inverse_34 ?_
  obtain ⟨z2, hf⟩ := nzL_of hf
  refine v_lrem (pc := 35) dM_inverse_35 z2 ?_
  refine v_goto (pc := 36) (tgt := 40) dM_inverse_36 rfl ?_
  refine v_wk (ls' := [some (.ref x0), none, none, none, none, some (.long x5), none, some (.int x7)]) ⟨rfl, rfl, rfl, trivial⟩ ?_
  exact tM_inverse_40 hk13 n h (lrm (x3 * x5) i1.toInt64) x0 x5 x7 hf
def fM_inverse (n : Nat) (h : MH) (a_0 : Nat) (j_1 : Int64) : Option (MH × Int64) := ((gfI h a_0 [12] 2).bind fun i1 => (fM_inverse_13 n h a_0 (1:Int64) j_1 (i1 - (2:Int32))))
set_option maxRecDepth 20000 in
set_option maxHeartbeats 4000000 in
theorem sM_inverse {g : Gh} {h' : MH} {r' : Int64} {n : Nat} {h : MH} {a_0 : Nat} {j_1 : Int64} (hf : fM_inverse n h a_0 j_1 = some (h', r')) : Sp g yM_inverse cM_inverse 8 (some .long) rmM_inverse h [.ref a_0, .long j_1] h' (some (.long r')) := by
  refine sp_of (by decide) (Nat.le_of_ble_eq_true rfl) ?_
  change V g yM_inverse cM_inverse 8 (some .long) rmM_inverse (ZQ g rmM_inverse h' (some (.long r'))) 0 0 h 0 [some (.ref a_0), some (.long j_1), none, none, none, none, none, none] []
  unfold fM_inverse at hf
  refine v_lconst (pc := 0) (1:Int64) dM_inverse_0 rfl ?_
  refine v_lstore_n (i := 3) (pc := 1) (ls' := [some (.ref a_0), some (.long j_1), none, some (.long (1:Int64)), none, none, none, none]) dM_inverse_1 rfl (by decide) rfl ?_
  refine v_lload_n (i := 1) (pc := 2) dM_inverse_2 rfl rfl ?_
  refine v_lstore (pc := 3) (ls' := [some (.ref a_0), some (.long j_1), none, some (.long (1:Int64)), none, some (.long j_1), none, none]) dM_inverse_3 (by decide) rfl ?_
  refine v_aload_n (i := 0) (pc := 5) dM_inverse_5 rfl rfl ?_
  refine v_getI (pc := 6) fgM_80 dM_inverse_6 hf (fun i1 hf => ?_)
  refine v_iconst (pc := 9) (2:Int32) dM_inverse_9 rfl ?_
  refine v_isub (pc := 10) dM_inverse_10 ?_
  refine v_istore (pc := 11) (ls' := [some (.ref a_0), some (.long j_1), none, some (.long (1:Int64)), none, some (.long j_1), none, some (.int (i1 - (2:Int32)))]) dM_inverse_11 (by decide) rfl ?_
  refine v_wk (ls' := [some (.ref a_0), none, none, some (.long (1:Int64)), none, some (.long j_1), none, some (.int (i1 - (2:Int32)))]) ⟨rfl, rfl, rfl, rfl, trivial⟩ ?_
  exact tM_inverse_13 n h a_0 (1:Int64) j_1 (i1 - (2:Int32)) hf
abbrev rmM_kindOf : Room := { frames := 0, cells := 0, slots := 0, locals := 0 }
def fM_kindOf_211 (k18 : (MH × Nat × Int32 × Int32 × Int32 × Int32 × Int32 × Int32) → Option (MH × Int32)) (k27 : (MH × Nat × Int32 × Int32 × Int32 × Int32 × Int32 × Int32 × Int32) → Option (MH × Int32)) (n : Nat) (h : MH) (s0 : Int32) (x0 : Nat) (x1 : Int32) (x2 : Int32) (x3 : Int32) (x4 : Int32) (x6 : Int32) (x7 : Int32) : Option (MH × Int32) := (k27 (h, x0, x1, x2, x3, x4, s0, x6, (x7 + (1:Int32))))
set_option maxRecDepth 20000 in
set_option maxHeartbeats 4000000 in
theorem tM_kindOf_211 {g : Gh} {h' : MH} {r' : Int32} {k18 : (MH × Nat × Int32 × Int32 × Int32 × Int32 × Int32 × Int32) → Option (MH × Int32)} {k27 : (MH × Nat × Int32 × Int32 × Int32 × Int32 × Int32 × Int32 × Int32) → Option (MH × Int32)} (hk18 : ∀ (h : MH) (x0 : Nat) (x1 : Int32) (x2 : Int32) (x3 : Int32) (x4 : Int32) (x5 : Int32) (x6 : Int32), k18 (h, x0, x1, x2, x3, x4, x5, x6) = some (h', r') → V g yM_kindOf cM_kindOf 12 (some .int) rmM_kindOf (ZQ g rmM_kindOf h' (some (.int r'))) 0 0 h 18 [some (.ref x0), some (.int x1), some (.int x2), some (.int x3), some (.int x4), some (.int x5), some (.int x6), none, none, none, none, none] []) (hk27 : ∀ (h : MH) (x0 : Nat) (x1 : Int32) (x2 : Int32) (x3 : Int32) (x4 : Int32) (x5 : Int32) (x6 : Int32) (x7 : Int32), k27 (h, x0, x1, x2, x3, x4, x5, x6, x7) = some (h', r') → V g yM_kindOf cM_kindOf 12 (some .int) rmM_kindOf (ZQ g rmM_kindOf h' (some (.int r'))) 0 0 h 27 [some (.ref x0), some (.int x1), some (.int x2), some (.int x3), some (.int x4), some (.int x5), some (.int x6), some (.int x7), none, none, none, none] []) (n : Nat) (h : MH) (s0 : Int32) (x0 : Nat) (x1 : Int32) (x2 : Int32) (x3 : Int32) (x4 : Int32) (x6 : Int32) (x7 : Int32) (hf : fM_kindOf_211 k18 k27 n h s0 x0 x1 x2 x3 x4 x6 x7 = some (h', r')) : V g yM_kindOf cM_kindOf 12 (some .int) rmM_kindOf (ZQ g rmM_kindOf h' (some (.int r'))) 0 0 h 211 [some (.ref x0), some (.int x1), some (.int x2), some (.int x3), some (.int x4), none, some (.int x6), some (.int x7), none, none, none, none] [.int s0] := by
  unfold fM_kindOf_211 at hf
  refine v_istore (pc := 211) (ls' := [some (.ref x0), some (.int x1), some (.int x2), some (.int x3), some (.int x4), some (.int s0), some (.int x6), some (.int x7), none, none, none, none]) dM_kindOf_211 (by decide) rfl ?_
  refine v_iinc (pc := 213) (v := (x7 + (1:Int32))) (ls' := [some (.ref x0), some (.int x1), some (.int x2), some (.int x3), some (.int x4), some (.int s0), some (.int x6), some (.int (x7 + (1:Int32))), none, none, none, none]) dM_kindOf_213 rfl rfl (by decide) rfl ?_
  refine v_goto (pc := 216) (tgt := 27) dM_kindOf_216 rfl ?_
  refine v_wk (ls' := [some (.ref x0), some (.int x1), some (.int x2), some (.int x3), some (.int x4), some (.int s0), some (.int x6), some (.int (x7 + (1:Int32))), none, none, none, none]) ⟨rfl, rfl, rfl, rfl, rfl, rfl, rfl, rfl, trivial⟩ ?_
  exact hk27 h x0 x1 x2 x3 x4 s0 x6 (x7 + (1:Int32)) hf
def fM_kindOf_210 (k18 : (MH × Nat × Int32 × Int32 × Int32 × Int32 × Int32 × Int32) → Option (MH × Int32)) (k27 : (MH × Nat × Int32 × Int32 × Int32 × Int32 × Int32 × Int32 × Int32) → Option (MH × Int32)) (n : Nat) (h : MH) (x0 : Nat) (x1 : Int32) (x2 : Int32) (x3 : Int32) (x4 : Int32) (x6 : Int32) (x7 : Int32) : Option (MH × Int32) := (fM_kindOf_211 k18 k27 n h (0:Int32) x0 x1 x2 x3 x4 x6 x7)
set_option maxRecDepth 20000 in
set_option maxHeartbeats 4000000 in
theorem tM_kindOf_210 {g : Gh} {h' : MH} {r' : Int32} {k18 : (MH × Nat × Int32 × Int32 × Int32 × Int32 × Int32 × Int32) → Option (MH × Int32)} {k27 : (MH × Nat × Int32 × Int32 × Int32 × Int32 × Int32 × Int32 × Int32) → Option (MH × Int32)} (hk18 : ∀ (h : MH) (x0 : Nat) (x1 : Int32) (x2 : Int32) (x3 : Int32) (x4 : Int32) (x5 : Int32) (x6 : Int32), k18 (h, x0, x1, x2, x3, x4, x5, x6) = some (h', r') → V g yM_kindOf cM_kindOf 12 (some .int) rmM_kindOf (ZQ g rmM_kindOf h' (some (.int r'))) 0 0 h 18 [some (.ref x0), some (.int x1), some (.int x2), some (.int x3), some (.int x4), some (.int x5), some (.int x6), none, none, none, none, none] []) (hk27 : ∀ (h : MH) (x0 : Nat) (x1 : Int32) (x2 : Int32) (x3 : Int32) (x4 : Int32) (x5 : Int32) (x6 : Int32) (x7 : Int32), k27 (h, x0, x1, x2, x3, x4, x5, x6, x7) = some (h', r') → V g yM_kindOf cM_kindOf 12 (some .int) rmM_kindOf (ZQ g rmM_kindOf h' (some (.int r'))) 0 0 h 27 [some (.ref x0), some (.int x1), some (.int x2), some (.int x3), some (.int x4), some (.int x5), some (.int x6), some (.int x7), none, none, none, none] []) (n : Nat) (h : MH) (x0 : Nat) (x1 : Int32) (x2 : Int32) (x3 : Int32) (x4 : Int32) (x6 : Int32) (x7 : Int32) (hf : fM_kindOf_210 k18 k27 n h x0 x1 x2 x3 x4 x6 x7 = some (h', r')) : V g yM_kindOf cM_kindOf 12 (some .int) rmM_kindOf (ZQ g rmM_kindOf h' (some (.int r'))) 0 0 h 210 [some (.ref x0), some (.int x1), some (.int x2), some (.int x3), some (.int x4), none, some (.int x6), some (.int x7), none, none, none, none] [] := by
  unfold fM_kindOf_210 at hf
  refine v_iconst (pc := 210) (0:Int32) dM_kindOf_210 rfl ?_
  refine v_wk (ls' := [some (.ref x0), some (.int x1), some (.int x2), some (.int x3), some (.int x4), none, some (.int x6), some (.int x7), none, none, none, none]) ⟨rfl, rfl, rfl, rfl, rfl, rfl, rfl, trivial⟩ ?_
  exact tM_kindOf_211 hk18 hk27 n h (0:Int32) x0 x1 x2 x3 x4 x6 x7 hf
def fM_kindOf_101 (k18 : (MH × Nat × Int32 × Int32 × Int32 × Int32 × Int32 × Int32) → Option (MH × Int32)) (k27 : (MH × Nat × Int32 × Int32 × Int32 × Int32 × Int32 × Int32 × Int32) → Option (MH × Int32)) (n : Nat) (h : MH) (s0 : Int32) (x0 : Nat) (x1 : Int32) (x2 : Int32) (x3 : Int32) (x5 : Int32) (x6 : Int32) (x7 : Int32) (x8 : Int64) : Option (MH × Int32) := ((gfR h x0 [12] 11).bind fun a1 => ((rdL h a1 (((8:Int32) * x1) + x6)).bind fun j2 => ((gfI h x0 [12] 2).bind fun i3 => (nzL i3.toInt64 ((gfR h x0 [12] 11).bind fun a4 => ((rdL h a4 (((8:Int32) * x1) + x7)).bind fun j5 => ((gfR h x0 [12] 10).bind fun a6 => ((rdL h a6 ((((64:Int32) * x1) + ((8:Int32) * x7)) + x6)).bind fun j7 => ((gfI h x0 [12] 2).bind fun i8 => (nzL i8.toInt64 (if x5 = (0:Int32) then (fM_kindOf_210 k18 k27 n h x0 x1 x2 x3 s0 x6 x7) else ((gfR h x0 [12] 11).bind fun a9 => ((rdL h a9 (((8:Int32) * x1) + x6)).bind fun j10 => ((gfR h x0 [12] 11).bind fun a11 => ((rdL h a11 (((8:Int32) * x1) + x7)).bind fun j12 => ((gfI h x0 [12] 2).bind fun i13 => (nzL i13.toInt64 (if (lrm ((lrm (j2 * x8) i3.toInt64) + (j5 * j7)) i8.toInt64) = (lrm (j10 * j12) i13.toInt64) then (fM_kindOf_211 k18 k27 n h (1:Int32) x0 x1 x2 x3 s0 x6 x7) else (fM_kindOf_210 k18 k27 n h x0 x1 x2 x3 s0 x6 x7)))))))))))))))))))
set_option maxRecDepth 20000 in
set_option maxHeartbeats 4000000 in
theorem tM_kindOf_101 {g : Gh} {h' : MH} {r' : Int32} {k18 : (MH × Nat × Int32 × Int32 × Int32 × Int32 × Int32 × Int32) → Option (MH × Int32)} {k27 : (MH × Nat × Int32 × Int32 × Int32 × Int32 × Int32 × Int32 × Int32) → Option (MH × Int32)} (hk18 : ∀ (h : MH) (x0 : Nat) (x1 : Int32) (x2 : Int32) (x3 : Int32) (x4 : Int32) (x5 : Int32) (x6 : Int32), k18 (h, x0, x1, x2, x3, x4, x5, x6) = some (h', r') → V g yM_kindOf cM_kindOf 12 (some .int) rmM_kindOf (ZQ g rmM_kindOf h' (some (.int r'))) 0 0 h 18 [some (.ref x0), some (.int x1), some (.int x2), some (.int x3), some (.int x4), some (.int x5), some (.int x6), none, none, none, none, none] []) (hk27 : ∀ (h : MH) (x0 : Nat) (x1 : Int32) (x2 : Int32) (x3 : Int32) (x4 : Int32) (x5 : Int32) (x6 : Int32) (x7 : Int32), k27 (h, x0, x1, x2, x3, x4, x5, x6, x7) = some (h', r') → V g yM_kindOf cM_kindOf 12 (some .int) rmM_kindOf (ZQ g rmM_kindOf h' (some (.int r'))) 0 0 h 27 [some (.ref x0), some (.int x1), some (.int x2), some (.int x3), some (.int x4), some (.int x5), some (.int x6), some (.int x7), none, none, none, none] []) (n : Nat) (h : MH) (s0 : Int32) (x0 : Nat) (x1 : Int32) (x2 : Int32) (x3 : Int32) (x5 : Int32) (x6 : Int32) (x7 : Int32) (x8 : Int64) (hf : fM_kindOf_101 k18 k27 n h s0 x0 x1 x2 x3 x5 x6 x7 x8 = some (h', r')) : V g yM_kindOf cM_kindOf 12 (some .int) rmM_kindOf (ZQ g rmM_kindOf h' (some (.int r'))) 0 0 h 101 [some (.ref x0), some (.int x1), some (.int x2), some (.int x3), none, some (.int x5), some (.int x6), some (.int x7), some (.long x8), none, none, none] [.int s0] := by
  unfold fM_kindOf_101 at hf
  refine v_istore (pc := 101) (ls' := [some (.ref x0), some (.int x1), some (.int x2), some (.int x3), some (.int s0), some (.int x5), some (.int x6), some (.int x7), some (.long x8), none, none, none]) dM_kindOf_101 (by decide) rfl ?_
  refine v_aload_n (i := 0) (pc := 103) dM_kindOf_103 rfl rfl ?_
  refine v_getR (pc := 104) fgM_43 dM_kindOf_104 hf (fun a1 hf => ?_)
  refine v_bipush (pc := 107) (8:Int32) dM_kindOf_107 rfl ?_
  refine v_iload_n (i := 1) (pc := 109) dM_kindOf_109 rfl rfl ?_
  refine v_imul (pc := 110) dM_kindOf_110 ?_
  refine v_iload (pc := 111) dM_kindOf_111 rfl ?_
  refine v_iadd (pc := 113) dM_kindOf_113 ?_
  refine v_lald (pc := 114) dM_kindOf_114 hf (fun j2 hf => ?_)
  refine v_lload (pc := 115) dM_kindOf_115 rfl ?_
  refine v_lmul (pc := 117) dM_kindOf_117 ?_
  refine v_aload_n (i := 0) (pc := 118) dM_kindOf_118 rfl rfl ?_
  refine v_getI (pc := 119) fgM_80 dM_kindOf_119 hf (fun i3 hf => ?_)
  refine v_i2l (pc := 122) dM_kindOf_122 ?_
  obtain ⟨z16, hf⟩ := nzL_of hf
  refine v_lrem (pc := 123) dM_kindOf_123 z16 ?_
  refine v_aload_n (i := 0) (pc := 124) dM_kindOf_124 rfl rfl ?_
  refine v_getR (pc := 125) fgM_43 dM_kindOf_125 hf (fun a4 hf => ?_)
  refine v_bipush (pc := 128) (8:Int32) dM_kindOf_128 rfl ?_
  refine v_iload_n (i := 1) (pc := 130) dM_kindOf_130 rfl rfl ?_
  refine v_imul (pc := 131) dM_kindOf_131 ?_
  refine v_iload (pc := 132) dM_kindOf_132 rfl ?_
  refine v_iadd (pc := 134) dM_kindOf_134 ?_
  refine v_lald (pc := 135) dM_kindOf_135 hf (fun j5 hf => ?_)
  refine v_aload_n (i := 0) (pc := 136) dM_kindOf_136 rfl rfl ?_
  refine v_getR (pc := 137) fgM_40 dM_kindOf_137 hf (fun a6 hf => ?_)
  refine v_bipush (pc := 140) (64:Int32) dM_kindOf_140 rfl ?_
  refine v_iload_n (i := 1) (pc := 142) dM_kindOf_142 rfl rfl ?_
  refine v_imul (pc := 143) dM_kindOf_143 ?_
  refine v_bipush (pc := 144) (8:Int32) dM_kindOf_144 rfl ?_
  refine v_iload (pc := 146) dM_kindOf_146 rfl ?_
  refine v_imul (pc := 148) dM_kindOf_148 ?_
  refine v_iadd (pc := 149) dM_kindOf_149 ?_
  refine v_iload (pc := 150) dM_kindOf_150 rfl ?_
  refine v_iadd (pc := 152) dM_kindOf_152 ?_
  refine v_lald (pc := 153) dM_kindOf_153 hf (fun j7 hf => ?_)
  refine v_lmul (pc := 154) dM_kindOf_154 ?_
  refine v_ladd (pc := 155) dM_kindOf_155 ?_
  refine v_aload_n (i := 0) (pc := 156) dM_kindOf_156 rfl rfl ?_
  refine v_getI (pc := 157) fgM_80 dM_kindOf_157 hf (fun i8 hf => ?_)
  refine v_i2l (pc := 160) dM_kindOf_160 ?_
  obtain ⟨z15, hf⟩ := nzL_of hf
  refine v_lrem (pc := 161) dM_kindOf_161 z15 ?_
  refine v_lstore (pc := 162) (ls' := [some (.ref x0), some (.int x1), some (.int x2), some (.int x3), some (.int s0), some (.int x5), some (.int x6), some (.int x7), some (.long x8), none, some (.long (lrm ((lrm (j2 * x8) i3.toInt64) + (j5 * j7)) i8.toInt64)), none]) dM_kindOf_162 (by decide) rfl ?_
  refine v_iload (pc := 164) dM_kindOf_164 rfl ?_
  refine v_if_eq (pc := 166) (tgt := 210) dM_kindOf_166 rfl hf (fun hf => ?_) (fun hf => ?_)
  · refine v_wk (ls' := [some (.ref x0), some (.int x1), some (.int x2), some (.int x3), some (.int s0), none, some (.int x6), some (.int x7), none, none, none, none]) ⟨rfl, rfl, rfl, rfl, rfl, rfl, rfl, trivial⟩ ?_
    exact tM_kindOf_210 hk18 hk27 n h x0 x1 x2 x3 s0 x6 x7 hf
  refine v_lload (pc := 169) dM_kindOf_169 rfl ?_
  refine v_aload_n (i := 0) (pc := 171) dM_kindOf_171 rfl rfl ?_
  refine v_getR (pc := 172) fgM_43 dM_kindOf_172 hf (fun a9 hf => ?_)
  refine v_bipush (pc := 175) (8:Int32) dM_kindOf_175 rfl ?_
  refine v_iload_n (i := 1) (pc := 177) dM_kindOf_177 rfl rfl ?_
  refine v_imul (pc := 178) dM_kindOf_178 ?_
  refine v_iload (pc := 179) dM_kindOf_179 rfl ?_
  refine v_iadd (pc := 181) dM_kindOf_181 ?_
  refine v_lald (pc := 182) dM_kindOf_182 hf (fun j10 hf => ?_)
  refine v_aload_n (i := 0) (pc := 183) dM_kindOf_183 rfl rfl ?_
  refine v_getR (pc := 184) fgM_43 dM_kindOf_184 hf (fun a11 hf => ?_)
  refine v_bipush (pc := 187) (8:Int32) dM_kindOf_187 rfl ?_
  refine v_iload_n (i := 1) (pc := 189) dM_kindOf_189 rfl rfl ?_
  refine v_imul (pc := 190) dM_kindOf_190 ?_
  refine v_iload (pc := 191) dM_kindOf_191 rfl ?_
  refine v_iadd (pc := 193) dM_kindOf_193 ?_
  refine v_lald (pc := 194) dM_kindOf_194 hf (fun j12 hf => ?_)
  refine v_lmul (pc := 195) dM_kindOf_195 ?_
  refine v_aload_n (i := 0) (pc := 196) dM_kindOf_196 rfl rfl ?_
  refine v_getI (pc := 197) fgM_80 dM_kindOf_197 hf (fun i13 hf => ?_)
  refine v_i2l (pc := 200) dM_kindOf_200 ?_
  obtain ⟨z14, hf⟩ := nzL_of hf
  refine v_lrem (pc := 201) dM_kindOf_201 z14 ?_
  refine v_lcmp_ne (pc := 202) (tgt := 210) dM_kindOf_202 dM_kindOf_203 rfl hf (fun hf => ?_) (fun hf => ?_)
  rotate_left
  · refine v_wk (ls' := [some (.ref x0), some (.int x1), some (.int x2), some (.int x3), some (.int s0), none, some (.int x6), some (.int x7), none, none, none, none]) ⟨rfl, rfl, rfl, rfl, rfl, rfl, rfl, trivial⟩ ?_
    exact tM_kindOf_210 hk18 hk27 n h x0 x1 x2 x3 s0 x6 x7 hf
  refine v_iconst (pc := 206) (1:Int32) dM_kindOf_206 rfl ?_
  refine v_goto (pc := 207) (tgt := 211) dM_kindOf_207 rfl ?_
  refine v_wk (ls' := [some (.ref x0), some (.int x1), some (.int x2), some (.int x3), some (.int s0), none, some (.int x6), some (.int x7), none, none, none, none]) ⟨rfl, rfl, rfl, rfl, rfl, rfl, rfl, trivial⟩ ?_
  exact tM_kindOf_211 hk18 hk27 n h (1:Int32) x0 x1 x2 x3 s0 x6 x7 hf
def fM_kindOf_96 (k18 : (MH × Nat × Int32 × Int32 × Int32 × Int32 × Int32 × Int32) → Option (MH × Int32)) (k27 : (MH × Nat × Int32 × Int32 × Int32 × Int32 × Int32 × Int32 × Int32) → Option (MH × Int32)) (n : Nat) (h : MH) (x0 : Nat) (x1 : Int32) (x2 : Int32) (x3 : Int32) (x5 : Int32) (x6 : Int32) (x7 : Int32) (x8 : Int64) : Option (MH × Int32) := (fM_kindOf_101 k18 k27 n h (1:Int32) x0 x1 x2 x3 x5 x6 x7 x8)
set_option maxRecDepth 20000 in
set_option maxHeartbeats 4000000 in
theorem tM_kindOf_96 {g : Gh} {h' : MH} {r' : Int32} {k18 : (MH × Nat × Int32 × Int32 × Int32 × Int32 × Int32 × Int32) → Option (MH × Int32)} {k27 : (MH × Nat × Int32 × Int32 × Int32 × Int32 × Int32 × Int32 × Int32) → Option (MH × Int32)} (hk18 : ∀ (h : MH) (x0 : Nat) (x1 : Int32) (x2 : Int32) (x3 : Int32) (x4 : Int32) (x5 : Int32) (x6 : Int32), k18 (h, x0, x1, x2, x3, x4, x5, x6) = some (h', r') → V g yM_kindOf cM_kindOf 12 (some .int) rmM_kindOf (ZQ g rmM_kindOf h' (some (.int r'))) 0 0 h 18 [some (.ref x0), some (.int x1), some (.int x2), some (.int x3), some (.int x4), some (.int x5), some (.int x6), none, none, none, none, none] []) (hk27 : ∀ (h : MH) (x0 : Nat) (x1 : Int32) (x2 : Int32) (x3 : Int32) (x4 : Int32) (x5 : Int32) (x6 : Int32) (x7 : Int32), k27 (h, x0, x1, x2, x3, x4, x5, x6, x7) = some (h', r') → V g yM_kindOf cM_kindOf 12 (some .int) rmM_kindOf (ZQ g rmM_kindOf h' (some (.int r'))) 0 0 h 27 [some (.ref x0), some (.int x1), some (.int x2), some (.int x3), some (.int x4), some (.int x5), some (.int x6), some (.int x7), none, none, none, none] []) (n : Nat) (h : MH) (x0 : Nat) (x1 : Int32) (x2 : Int32) (x3 : Int32) (x5 : Int32) (x6 : Int32) (x7 : Int32) (x8 : Int64) (hf : fM_kindOf_96 k18 k27 n h x0 x1 x2 x3 x5 x6 x7 x8 = some (h', r')) : V g yM_kindOf cM_kindOf 12 (some .int) rmM_kindOf (ZQ g rmM_kindOf h' (some (.int r'))) 0 0 h 96 [some (.ref x0), some (.int x1), some (.int x2), some (.int x3), none, some (.int x5), some (.int x6), some (.int x7), some (.long x8), none, none, none] [] := by
  unfold fM_kindOf_96 at hf
  refine v_iconst (pc := 96) (1:Int32) dM_kindOf_96 rfl ?_
  refine v_goto (pc := 97) (tgt := 101) dM_kindOf_97 rfl ?_
  refine v_wk (ls' := [some (.ref x0), some (.int x1), some (.int x2), some (.int x3), none, some (.int x5), some (.int x6), some (.int x7), some (.long x8), none, none, none]) ⟨rfl, rfl, rfl, rfl, rfl, rfl, rfl, rfl, trivial⟩ ?_
  exact tM_kindOf_101 hk18 hk27 n h (1:Int32) x0 x1 x2 x3 x5 x6 x7 x8 hf
def fM_kindOf_100 (k18 : (MH × Nat × Int32 × Int32 × Int32 × Int32 × Int32 × Int32) → Option (MH × Int32)) (k27 : (MH × Nat × Int32 × Int32 × Int32 × Int32 × Int32 × Int32 × Int32) → Option (MH × Int32)) (n : Nat) (h : MH) (x0 : Nat) (x1 : Int32) (x2 : Int32) (x3 : Int32) (x5 : Int32) (x6 : Int32) (x7 : Int32) (x8 : Int64) : Option (MH × Int32) := (fM_kindOf_101 k18 k27 n h (0:Int32) x0 x1 x2 x3 x5 x6 x7 x8)
set_option maxRecDepth 20000 in
set_option maxHeartbeats 4000000 in
theorem tM_kindOf_100 {g : Gh} {h' : MH} {r' : Int32} {k18 : (MH × Nat × Int32 × Int32 × Int32 × Int32 × Int32 × Int32) → Option (MH × Int32)} {k27 : (MH × Nat × Int32 × Int32 × Int32 × Int32 × Int32 × Int32 × Int32) → Option (MH × Int32)} (hk18 : ∀ (h : MH) (x0 : Nat) (x1 : Int32) (x2 : Int32) (x3 : Int32) (x4 : Int32) (x5 : Int32) (x6 : Int32), k18 (h, x0, x1, x2, x3, x4, x5, x6) = some (h', r') → V g yM_kindOf cM_kindOf 12 (some .int) rmM_kindOf (ZQ g rmM_kindOf h' (some (.int r'))) 0 0 h 18 [some (.ref x0), some (.int x1), some (.int x2), some (.int x3), some (.int x4), some (.int x5), some (.int x6), none, none, none, none, none] []) (hk27 : ∀ (h : MH) (x0 : Nat) (x1 : Int32) (x2 : Int32) (x3 : Int32) (x4 : Int32) (x5 : Int32) (x6 : Int32) (x7 : Int32), k27 (h, x0, x1, x2, x3, x4, x5, x6, x7) = some (h', r') → V g yM_kindOf cM_kindOf 12 (some .int) rmM_kindOf (ZQ g rmM_kindOf h' (some (.int r'))) 0 0 h 27 [some (.ref x0), some (.int x1), some (.int x2), some (.int x3), some (.int x4), some (.int x5), some (.int x6), some (.int x7), none, none, none, none] []) (n : Nat) (h : MH) (x0 : Nat) (x1 : Int32) (x2 : Int32) (x3 : Int32) (x5 : Int32) (x6 : Int32) (x7 : Int32) (x8 : Int64) (hf : fM_kindOf_100 k18 k27 n h x0 x1 x2 x3 x5 x6 x7 x8 = some (h', r')) : V g yM_kindOf cM_kindOf 12 (some .int) rmM_kindOf (ZQ g rmM_kindOf h' (some (.int r'))) 0 0 h 100 [some (.ref x0), some (.int x1), some (.int x2), some (.int x3), none, some (.int x5), some (.int x6), some (.int x7), some (.long x8), none, none, none] [] := by
  unfold fM_kindOf_100 at hf
  refine v_iconst (pc := 100) (0:Int32) dM_kindOf_100 rfl ?_
  refine v_wk (ls' := [some (.ref x0), some (.int x1), some (.int x2), some (.int x3), none, some (.int x5), some (.int x6), some (.int x7), some (.long x8), none, none, none]) ⟨rfl, rfl, rfl, rfl, rfl, rfl, rfl, rfl, trivial⟩ ?_
  exact tM_kindOf_101 hk18 hk27 n h (0:Int32) x0 x1 x2 x3 x5 x6 x7 x8 hf
def fM_kindOf_76 (k18 : (MH × Nat × Int32 × Int32 × Int32 × Int32 × Int32 × Int32) → Option (MH × Int32)) (k27 : (MH × Nat × Int32 × Int32 × Int32 × Int32 × Int32 × Int32 × Int32) → Option (MH × Int32)) (n : Nat) (h : MH) (s0 : Int32) (x0 : Nat) (x1 : Int32) (x2 : Int32) (x4 : Int32) (x5 : Int32) (x6 : Int32) (x7 : Int32) (x8 : Int64) : Option (MH × Int32) := (if x4 = (0:Int32) then (fM_kindOf_100 k18 k27 n h x0 x1 x2 s0 x5 x6 x7 x8) else (if x7 < x6 then (fM_kindOf_96 k18 k27 n h x0 x1 x2 s0 x5 x6 x7 x8) else (if x8 = (0:Int64) then (fM_kindOf_96 k18 k27 n h x0 x1 x2 s0 x5 x6 x7 x8) else (fM_kindOf_100 k18 k27 n h x0 x1 x2 s0 x5 x6 x7 x8))))
set_option maxRecDepth 20000 in
set_option maxHeartbeats 4000000 in
theorem tM_kindOf_76 {g : Gh} {h' : MH} {r' : Int32} {k18 : (MH × Nat × Int32 × Int32 × Int32 × Int32 × Int32 × Int32) → Option (MH × Int32)} {k27 : (MH × Nat × Int32 × Int32 × Int32 × Int32 × Int32 × Int32 × Int32) → Option (MH × Int32)} (hk18 : ∀ (h : MH) (x0 : Nat) (x1 : Int32) (x2 : Int32) (x3 : Int32) (x4 : Int32) (x5 : Int32) (x6 : Int32), k18 (h, x0, x1, x2, x3, x4, x5, x6) = some (h', r') → V g yM_kindOf cM_kindOf 12 (some .int) rmM_kindOf (ZQ g rmM_kindOf h' (some (.int r'))) 0 0 h 18 [some (.ref x0), some (.int x1), some (.int x2), some (.int x3), some (.int x4), some (.int x5), some (.int x6), none, none, none, none, none] []) (hk27 : ∀ (h : MH) (x0 : Nat) (x1 : Int32) (x2 : Int32) (x3 : Int32) (x4 : Int32) (x5 : Int32) (x6 : Int32) (x7 : Int32), k27 (h, x0, x1, x2, x3, x4, x5, x6, x7) = some (h', r') → V g yM_kindOf cM_kindOf 12 (some .int) rmM_kindOf (ZQ g rmM_kindOf h' (some (.int r'))) 0 0 h 27 [some (.ref x0), some (.int x1), some (.int x2), some (.int x3), some (.int x4), some (.int x5), some (.int x6), some (.int x7), none, none, none, none] []) (n : Nat) (h : MH) (s0 : Int32) (x0 : Nat) (x1 : Int32) (x2 : Int32) (x4 : Int32) (x5 : Int32) (x6 : Int32) (x7 : Int32) (x8 : Int64) (hf : fM_kindOf_76 k18 k27 n h s0 x0 x1 x2 x4 x5 x6 x7 x8 = some (h', r')) : V g yM_kindOf cM_kindOf 12 (some .int) rmM_kindOf (ZQ g rmM_kindOf h' (some (.int r'))) 0 0 h 76 [some (.ref x0), some (.int x1), some (.int x2), none, some (.int x4), some (.int x5), some (.int x6), some (.int x7), some (.long x8), none, none, none] [.int s0] := by
  unfold fM_kindOf_76 at hf
  refine v_istore_n (i := 3) (pc := 76) (ls' := [some (.ref x0), some (.int x1), some (.int x2), some (.int s0), some (.int x4), some (.int x5), some (.int x6), some (.int x7), some (.long x8), none, none, none]) dM_kindOf_76 rfl (by decide) rfl ?_
  refine v_iload (pc := 77) dM_kindOf_77 rfl ?_
  refine v_if_eq (pc := 79) (tgt := 100) dM_kindOf_79 rfl hf (fun hf => ?_) (fun hf => ?_)
  · refine v_wk (ls' := [some (.ref x0), some (.int x1), some (.int x2), some (.int s0), none, some (.int x5), some (.int x6), some (.int x7), some (.long x8), none, none, none]) ⟨rfl, rfl, rfl, rfl, rfl, rfl, rfl, rfl, trivial⟩ ?_
    exact tM_kindOf_100 hk18 hk27 n h x0 x1 x2 s0 x5 x6 x7 x8 hf
  refine v_iload (pc := 82) dM_kindOf_82 rfl ?_
  refine v_iload (pc := 84) dM_kindOf_84 rfl ?_
  refine v_icmp_lt (pc := 86) (tgt := 96) dM_kindOf_86 rfl hf (fun hf => ?_) (fun hf => ?_)
  · refine v_wk (ls' := [some (.ref x0), some (.int x1), some (.int x2), some (.int s0), none, some (.int x5), some (.int x6), some (.int x7), some (.long x8), none, none, none]) ⟨rfl, rfl, rfl, rfl, rfl, rfl, rfl, rfl, trivial⟩ ?_
    exact tM_kindOf_96 hk18 hk27 n h x0 x1 x2 s0 x5 x6 x7 x8 hf
  refine v_lload (pc := 89) dM_kindOf_89 rfl ?_
  refine v_lconst (pc := 91) (0:Int64) dM_kindOf_91 rfl ?_
  refine v_lcmp_ne (pc := 92) (tgt := 100) dM_kindOf_92 dM_kindOf_93 rfl hf (fun hf => ?_) (fun hf => ?_)
  · refine v_wk (ls' := [some (.ref x0), some (.int x1), some (.int x2), some (.int s0), none, some (.int x5), some (.int x6), some (.int x7), some (.long x8), none, none, none]) ⟨rfl, rfl, rfl, rfl, rfl, rfl, rfl, rfl, trivial⟩ ?_
    exact tM_kindOf_96 hk18 hk27 n h x0 x1 x2 s0 x5 x6 x7 x8 hf
  refine v_wk (ls' := [some (.ref x0), some (.int x1), some (.int x2), some (.int s0), none, some (.int x5), some (.int x6), some (.int x7), some (.long x8), none, none, none]) ⟨rfl, rfl, rfl, rfl, rfl, rfl, rfl, rfl, trivial⟩ ?_
  exact tM_kindOf_100 hk18 hk27 n h x0 x1 x2 s0 x5 x6 x7 x8 hf
def fM_kindOf_71 (k18 : (MH × Nat × Int32 × Int32 × Int32 × Int32 × Int32 × Int32) → Option (MH × Int32)) (k27 : (MH × Nat × Int32 × Int32 × Int32 × Int32 × Int32 × Int32 × Int32) → Option (MH × Int32)) (n : Nat) (h : MH) (x0 : Nat) (x1 : Int32) (x2 : Int32) (x4 : Int32) (x5 : Int32) (x6 : Int32) (x7 : Int32) (x8 : Int64) : Option (MH × Int32) := (fM_kindOf_76 k18 k27 n h (1:Int32) x0 x1 x2 x4 x5 x6 x7 x8)
set_option maxRecDepth 20000 in
set_option maxHeartbeats 4000000 in
theorem tM_kindOf_71 {g : Gh} {h' : MH} {r' : Int32} {k18 : (MH × Nat × Int32 × Int32 × Int32 × Int32 × Int32 × Int32) → Option (MH × Int32)} {k27 : (MH × Nat × Int32 × Int32 × Int32 × Int32 × Int32 × Int32 × Int32) → Option (MH × Int32)} (hk18 : ∀ (h : MH) (x0 : Nat) (x1 : Int32) (x2 : Int32) (x3 : Int32) (x4 : Int32) (x5 : Int32) (x6 : Int32), k18 (h, x0, x1, x2, x3, x4, x5, x6) = some (h', r') → V g yM_kindOf cM_kindOf 12 (some .int) rmM_kindOf (ZQ g rmM_kindOf h' (some (.int r'))) 0 0 h 18 [some (.ref x0), some (.int x1), some (.int x2), some (.int x3), some (.int x4), some (.int x5), some (.int x6), none, none, none, none, none] []) (hk27 : ∀ (h : MH) (x0 : Nat) (x1 : Int32) (x2 : Int32) (x3 : Int32) (x4 : Int32) (x5 : Int32) (x6 : Int32) (x7 : Int32), k27 (h, x0, x1, x2, x3, x4, x5, x6, x7) = some (h', r') → V g yM_kindOf cM_kindOf 12 (some .int) rmM_kindOf (ZQ g rmM_kindOf h' (some (.int r'))) 0 0 h 27 [some (.ref x0), some (.int x1), some (.int x2), some (.int x3), some (.int x4), some (.int x5), some (.int x6), some (.int x7), none, none, none, none] []) (n : Nat) (h : MH) (x0 : Nat) (x1 : Int32) (x2 : Int32) (x4 : Int32) (x5 : Int32) (x6 : Int32) (x7 : Int32) (x8 : Int64) (hf : fM_kindOf_71 k18 k27 n h x0 x1 x2 x4 x5 x6 x7 x8 = some (h', r')) : V g yM_kindOf cM_kindOf 12 (some .int) rmM_kindOf (ZQ g rmM_kindOf h' (some (.int r'))) 0 0 h 71 [some (.ref x0), some (.int x1), some (.int x2), none, some (.int x4), some (.int x5), some (.int x6), some (.int x7), some (.long x8), none, none, none] [] := by
  unfold fM_kindOf_71 at hf
  refine v_iconst (pc := 71) (1:Int32) dM_kindOf_71 rfl ?_
  refine v_goto (pc := 72) (tgt := 76) dM_kindOf_72 rfl ?_
  refine v_wk (ls' := [some (.ref x0), some (.int x1), some (.int x2), none, some (.int x4), some (.int x5), some (.int x6), some (.int x7), some (.long x8), none, none, none]) ⟨rfl, rfl, rfl, rfl, rfl, rfl, rfl, rfl, trivial⟩ ?_
  exact tM_kindOf_76 hk18 hk27 n h (1:Int32) x0 x1 x2 x4 x5 x6 x7 x8 hf
def fM_kindOf_75 (k18 : (MH × Nat × Int32 × Int32 × Int32 × Int32 × Int32 × Int32) → Option (MH × Int32)) (k27 : (MH × Nat × Int32 × Int32 × Int32 × Int32 × Int32 × Int32 × Int32) → Option (MH × Int32)) (n : Nat) (h : MH) (x0 : Nat) (x1 : Int32) (x2 : Int32) (x4 : Int32) (x5 : Int32) (x6 : Int32) (x7 : Int32) (x8 : Int64) : Option (MH × Int32) := (fM_kindOf_76 k18 k27 n h (0:Int32) x0 x1 x2 x4 x5 x6 x7 x8)
set_option maxRecDepth 20000 in
set_option maxHeartbeats 4000000 in
theorem tM_kindOf_75 {g : Gh} {h' : MH} {r' : Int32} {k18 : (MH × Nat × Int32 × Int32 × Int32 × Int32 × Int32 × Int32) → Option (MH × Int32)} {k27 : (MH × Nat × Int32 × Int32 × Int32 × Int32 × Int32 × Int32 × Int32) → Option (MH × Int32)} (hk18 : ∀ (h : MH) (x0 : Nat) (x1 : Int32) (x2 : Int32) (x3 : Int32) (x4 : Int32) (x5 : Int32) (x6 : Int32), k18 (h, x0, x1, x2, x3, x4, x5, x6) = some (h', r') → V g yM_kindOf cM_kindOf 12 (some .int) rmM_kindOf (ZQ g rmM_kindOf h' (some (.int r'))) 0 0 h 18 [some (.ref x0), some (.int x1), some (.int x2), some (.int x3), some (.int x4), some (.int x5), some (.int x6), none, none, none, none, none] []) (hk27 : ∀ (h : MH) (x0 : Nat) (x1 : Int32) (x2 : Int32) (x3 : Int32) (x4 : Int32) (x5 : Int32) (x6 : Int32) (x7 : Int32), k27 (h, x0, x1, x2, x3, x4, x5, x6, x7) = some (h', r') → V g yM_kindOf cM_kindOf 12 (some .int) rmM_kindOf (ZQ g rmM_kindOf h' (some (.int r'))) 0 0 h 27 [some (.ref x0), some (.int x1), some (.int x2), some (.int x3), some (.int x4), some (.int x5), some (.int x6), some (.int x7), none, none, none, none] []) (n : Nat) (h : MH) (x0 : Nat) (x1 : Int32) (x2 : Int32) (x4 : Int32) (x5 : Int32) (x6 : Int32) (x7 : Int32) (x8 : Int64) (hf : fM_kindOf_75 k18 k27 n h x0 x1 x2 x4 x5 x6 x7 x8 = some (h', r')) : V g yM_kindOf cM_kindOf 12 (some .int) rmM_kindOf (ZQ g rmM_kindOf h' (some (.int r'))) 0 0 h 75 [some (.ref x0), some (.int x1), some (.int x2), none, some (.int x4), some (.int x5), some (.int x6), some (.int x7), some (.long x8), none, none, none] [] := by
  unfold fM_kindOf_75 at hf
  refine v_iconst (pc := 75) (0:Int32) dM_kindOf_75 rfl ?_
  refine v_wk (ls' := [some (.ref x0), some (.int x1), some (.int x2), none, some (.int x4), some (.int x5), some (.int x6), some (.int x7), some (.long x8), none, none, none]) ⟨rfl, rfl, rfl, rfl, rfl, rfl, rfl, rfl, trivial⟩ ?_
  exact tM_kindOf_76 hk18 hk27 n h (0:Int32) x0 x1 x2 x4 x5 x6 x7 x8 hf
def bM_kindOf_27 (k18 : (MH × Nat × Int32 × Int32 × Int32 × Int32 × Int32 × Int32) → Option (MH × Int32)) (n : Nat) (k27 : (MH × Nat × Int32 × Int32 × Int32 × Int32 × Int32 × Int32 × Int32) → Option (MH × Int32)) (h : MH) (x0 : Nat) (x1 : Int32) (x2 : Int32) (x3 : Int32) (x4 : Int32) (x5 : Int32) (x6 : Int32) (x7 : Int32) : Option (MH × Int32) := (if x2 ≤ x7 then (k18 (h, x0, x1, x2, x3, x4, x5, (x6 + (1:Int32)))) else ((gfR h x0 [12] 10).bind fun a1 => ((rdL h a1 ((((64:Int32) * x1) + ((8:Int32) * x6)) + x7)).bind fun j2 => (if x3 = (0:Int32) then (fM_kindOf_75 k18 k27 n h x0 x1 x2 x4 x5 x6 x7 j2) else (if x7 ≤ x6 then (fM_kindOf_71 k18 k27 n h x0 x1 x2 x4 x5 x6 x7 j2) else (if j2 = (0:Int64) then (fM_kindOf_71 k18 k27 n h x0 x1 x2 x4 x5 x6 x7 j2) else (fM_kindOf_75 k18 k27 n h x0 x1 x2 x4 x5 x6 x7 j2)))))))
def fM_kindOf_27 (k18 : (MH × Nat × Int32 × Int32 × Int32 × Int32 × Int32 × Int32) → Option (MH × Int32)) (n : Nat) (h : MH) (x0 : Nat) (x1 : Int32) (x2 : Int32) (x3 : Int32) (x4 : Int32) (x5 : Int32) (x6 : Int32) (x7 : Int32) : Option (MH × Int32) := lp (fun n k s => bM_kindOf_27 k18 n k s.1 s.2.1 s.2.2.1 s.2.2.2.1 s.2.2.2.2.1 s.2.2.2.2.2.1 s.2.2.2.2.2.2.1 s.2.2.2.2.2.2.2.1 s.2.2.2.2.2.2.2.2) n (h, x0, x1, x2, x3, x4, x5, x6, x7)
set_option maxRecDepth 20000 in
set_option maxHeartbeats 4000000 in
theorem tM_kindOf_27 {g : Gh} {h' : MH} {r' : Int32} {k18 : (MH × Nat × Int32 × Int32 × Int32 × Int32 × Int32 × Int32) → Option (MH × Int32)} (hk18 : ∀ (h : MH) (x0 : Nat) (x1 : Int32) (x2 : Int32) (x3 : Int32) (x4 : Int32) (x5 : Int32) (x6 : Int32), k18 (h, x0, x1, x2, x3, x4, x5, x6) = some (h', r') → V g yM_kindOf cM_kindOf 12 (some .int) rmM_kindOf (ZQ g rmM_kindOf h' (some (.int r'))) 0 0 h 18 [some (.ref x0), some (.int x1), some (.int x2), some (.int x3), some (.int x4), some (.int x5), some (.int x6), none, none, none, none, none] []) (n : Nat) (h : MH) (x0 : Nat) (x1 : Int32) (x2 : Int32) (x3 : Int32) (x4 : Int32) (x5 : Int32) (x6 : Int32) (x7 : Int32) (hf : fM_kindOf_27 k18 n h x0 x1 x2 x3 x4 x5 x6 x7 = some (h', r')) : V g yM_kindOf cM_kindOf 12 (some .int) rmM_kindOf (ZQ g rmM_kindOf h' (some (.int r'))) 0 0 h 27 [some (.ref x0), some (.int x1), some (.int x2), some (.int x3), some (.int x4), some (.int x5), some (.int x6), some (.int x7), none, none, none, none] [] := by
  unfold fM_kindOf_27 at hf
  refine lp_ind (P := fun s => V g yM_kindOf cM_kindOf 12 (some .int) rmM_kindOf (ZQ g rmM_kindOf h' (some (.int r'))) 0 0 s.1 27 [some (.ref s.2.1), some (.int s.2.2.1), some (.int s.2.2.2.1), some (.int s.2.2.2.2.1), some (.int s.2.2.2.2.2.1), some (.int s.2.2.2.2.2.2.1), some (.int s.2.2.2.2.2.2.2.1), some (.int s.2.2.2.2.2.2.2.2), none, none, none, none] []) (fun n k27 hk27 s hf => ?_) n (h, x0, x1, x2, x3, x4, x5, x6, x7) hf
  obtain ⟨h, x0, x1, x2, x3, x4, x5, x6, x7⟩ := s
  replace hk27 : ∀ (h : MH) (x0 : Nat) (x1 : Int32) (x2 : Int32) (x3 : Int32) (x4 : Int32) (x5 : Int32) (x6 : Int32) (x7 : Int32), k27 (h, x0, x1, x2, x3, x4, x5, x6, x7) = some (h', r') → V g yM_kindOf cM_kindOf 12 (some .int) rmM_kindOf (ZQ g rmM_kindOf h' (some (.int r'))) 0 0 h 27 [some (.ref x0), some (.int x1), some (.int x2), some (.int x3), some (.int x4), some (.int x5), some (.int x6), some (.int x7), none, none, none, none] [] := fun h x0 x1 x2 x3 x4 x5 x6 x7 => hk27 (h, x0, x1, x2, x3, x4, x5, x6, x7)
  replace hf : bM_kindOf_27 k18 n k27 h x0 x1 x2 x3 x4 x5 x6 x7 = some (h', r') := hf
  change V g yM_kindOf cM_kindOf 12 (some .int) rmM_kindOf (ZQ g rmM_kindOf h' (some (.int r'))) 0 0 h 27 [some (.ref x0), some (.int x1), some (.int x2), some (.int x3), some (.int x4), some (.int x5), some (.int x6), some (.int x7), none, none, none, none] []
  unfold bM_kindOf_27 at hf
  refine v_iload (pc := 27) dM_kindOf_27 rfl ?_
  refine v_iload_n (i := 2) (pc := 29) dM_kindOf_29 rfl rfl ?_
  refine v_icmp_ge (pc := 30) (tgt := 219) dM_kindOf_30 rfl hf (fun hf => ?_) (fun hf => ?_)
  · refine v_iinc (pc := 219) (v := (x6 + (1:Int32))) (ls' := [some (.ref x0), some (.int x1), some (.int x2), some (.int x3), some (.int x4), some (.int x5), some (.int (x6 + (1:Int32))), some (.int x7), none, none, none, none]) dM_kindOf_219 rfl rfl (by decide) rfl ?_
    refine v_goto (pc := 222) (tgt := 18) dM_kindOf_222 rfl ?_
    refine v_wk (ls' := [some (.ref x0), some (.int x1), some (.int x2), some (.int x3), some (.int x4), some (.int x5), some (.int (x6 + (1:Int32))), none, none, none, none, none]) ⟨rfl, rfl, rfl, rfl, rfl, rfl, rfl, trivial⟩ ?_
    exact hk18 h x0 x1 x2 x3 x4 x5 (x6 + (1:Int32)) hf
  refine v_aload_n (i := 0) (pc := 33) dM_kindOf_33 rfl rfl ?_
  refine v_getR (pc := 34) fgM_40 dM_kindOf_34 hf (fun a1 hf => ?_)
  refine v_bipush (pc := 37) (64:Int32) dM_kindOf_37 rfl ?_
  refine v_iload_n (i := 1) (pc := 39) dM_kindOf_39 rfl rfl ?_
  refine v_imul (pc := 40) dM_kindOf_40 ?_
  refine v_bipush (pc := 41) (8:Int32) dM_kindOf_41 rfl ?_
  refine v_iload (pc := 43) dM_kindOf_43 rfl ?_
  refine v_imul (pc := 45) dM_kindOf_45 ?_
  refine v_iadd (pc := 46) dM_kindOf_46 ?_
  refine v_iload (pc := 47) dM_kindOf_47 rfl ?_
  refine v_iadd (pc := 49) dM_kindOf_49 ?_
  refine v_lald (pc := 50) dM_kindOf_50 hf (fun j2 hf => ?_)
  refine v_lstore (pc := 51) (ls' := [some (.ref x0), some (.int x1), some (.int x2), some (.int x3), some (.int x4), some (.int x5), some (.int x6), some (.int x7), some (.long j2), none, none, none]) dM_kindOf_51 (by decide) rfl ?_
  refine v_iload_n (i := 3) (pc := 53) dM_kindOf_53 rfl rfl ?_
  refine v_if_eq (pc := 54) (tgt := 75) dM_kindOf_54 rfl hf (fun hf => ?_) (fun hf => ?_)
  · refine v_wk (ls' := [some (.ref x0), some (.int x1), some (.int x2), none, some (.int x4), some (.int x5), some (.int x6), some (.int x7), some (.long j2), none, none, none]) ⟨rfl, rfl, rfl, rfl, rfl, rfl, rfl, rfl, trivial⟩ ?_
    exact tM_kindOf_75 hk18 hk27 n h x0 x1 x2 x4 x5 x6 x7 j2 hf
  refine v_iload (pc := 57) dM_kindOf_57 rfl ?_
  refine v_iload (pc := 59) dM_kindOf_59 rfl ?_
  refine v_icmp_le (pc := 61) (tgt := 71) dM_kindOf_61 rfl hf (fun hf => ?_) (fun hf => ?_)
  · refine v_wk (ls' := [some (.ref x0), some (.int x1), some (.int x2), none, some (.int x4), some (.int x5), some (.int x6), some (.int x7), some (.long j2), none, none, none]) ⟨rfl, rfl, rfl, rfl, rfl, rfl, rfl, rfl, trivial⟩ ?_
    exact tM_kindOf_71 hk18 hk27 n h x0 x1 x2 x4 x5 x6 x7 j2 hf
  refine v_lload (pc := 64) dM_kindOf_64 rfl ?_
  refine v_lconst (pc := 66) (0:Int64) dM_kindOf_66 rfl ?_
  refine v_lcmp_ne (pc := 67) (tgt := 75) dM_kindOf_67 dM_kindOf_68 rfl hf (fun hf => ?_) (fun hf => ?_)
  · refine v_wk (ls' := [some (.ref x0), some (.int x1), some (.int x2), none, some (.int x4), some (.int x5), some (.int x6), some (.int x7), some (.long j2), none, none, none]) ⟨rfl, rfl, rfl, rfl, rfl, rfl, rfl, rfl, trivial⟩ ?_
    exact tM_kindOf_71 hk18 hk27 n h x0 x1 x2 x4 x5 x6 x7 j2 hf
  refine v_wk (ls' := [some (.ref x0), some (.int x1), some (.int x2), none, some (.int x4), some (.int x5), some (.int x6), some (.int x7), some (.long j2), none, none, none]) ⟨rfl, rfl, rfl, rfl, rfl, rfl, rfl, rfl, trivial⟩ ?_
  exact tM_kindOf_75 hk18 hk27 n h x0 x1 x2 x4 x5 x6 x7 j2 hf
def bM_kindOf_18 (n : Nat) (k18 : (MH × Nat × Int32 × Int32 × Int32 × Int32 × Int32 × Int32) → Option (MH × Int32)) (h : MH) (x0 : Nat) (x1 : Int32) (x2 : Int32) (x3 : Int32) (x4 : Int32) (x5 : Int32) (x6 : Int32) : Option (MH × Int32) := (if x2 ≤ x6 then (if x4 = (0:Int32) then (if x5 = (0:Int32) then (if x3 = (0:Int32) then (some (h, (0:Int32))) else (some (h, (1:Int32)))) else (some (h, (3:Int32)))) else (some (h, (2:Int32)))) else (fM_kindOf_27 k18 n h x0 x1 x2 x3 x4 x5 x6 (0:Int32)))
def fM_kindOf_18 (n : Nat) (h : MH) (x0 : Nat) (x1 : Int32) (x2 : Int32) (x3 : Int32) (x4 : Int32) (x5 : Int32) (x6 : Int32) : Option (MH × Int32) := lp (fun n k s => bM_kindOf_18 n k s.1 s.2.1 s.2.2.1 s.2.2.2.1 s.2.2.2.2.1 s.2.2.2.2.2.1 s.2.2.2.2.2.2.1 s.2.2.2.2.2.2.2) n (h, x0, x1, x2, x3, x4, x5, x6)
set_option maxRecDepth 20000 in
set_option maxHeartbeats 4000000 in
theorem tM_kindOf_18 {g : Gh} {h' : MH} {r' : Int32} (n : Nat) (h : MH) (x0 : Nat) (x1 : Int32) (x2 : Int32) (x3 : Int32) (x4 : Int32) (x5 : Int32) (x6 : Int32) (hf : fM_kindOf_18 n h x0 x1 x2 x3 x4 x5 x6 = some (h', r')) : V g yM_kindOf cM_kindOf 12 (some .int) rmM_kindOf (ZQ g rmM_kindOf h' (some (.int r'))) 0 0 h 18 [some (.ref x0), some (.int x1), some (.int x2), some (.int x3), some (.int x4), some (.int x5), some (.int x6), none, none, none, none, none] [] := by
  unfold fM_kindOf_18 at hf
  refine lp_ind (P := fun s => V g yM_kindOf cM_kindOf 12 (some .int) rmM_kindOf (ZQ g rmM_kindOf h' (some (.int r'))) 0 0 s.1 18 [some (.ref s.2.1), some (.int s.2.2.1), some (.int s.2.2.2.1), some (.int s.2.2.2.2.1), some (.int s.2.2.2.2.2.1), some (.int s.2.2.2.2.2.2.1), some (.int s.2.2.2.2.2.2.2), none, none, none, none, none] []) (fun n k18 hk18 s hf => ?_) n (h, x0, x1, x2, x3, x4, x5, x6) hf
  obtain ⟨h, x0, x1, x2, x3, x4, x5, x6⟩ := s
  replace hk18 : ∀ (h : MH) (x0 : Nat) (x1 : Int32) (x2 : Int32) (x3 : Int32) (x4 : Int32) (x5 : Int32) (x6 : Int32), k18 (h, x0, x1, x2, x3, x4, x5, x6) = some (h', r') → V g yM_kindOf cM_kindOf 12 (some .int) rmM_kindOf (ZQ g rmM_kindOf h' (some (.int r'))) 0 0 h 18 [some (.ref x0), some (.int x1), some (.int x2), some (.int x3), some (.int x4), some (.int x5), some (.int x6), none, none, none, none, none] [] := fun h x0 x1 x2 x3 x4 x5 x6 => hk18 (h, x0, x1, x2, x3, x4, x5, x6)
  replace hf : bM_kindOf_18 n k18 h x0 x1 x2 x3 x4 x5 x6 = some (h', r') := hf
  change V g yM_kindOf cM_kindOf 12 (some .int) rmM_kindOf (ZQ g rmM_kindOf h' (some (.int r'))) 0 0 h 18 [some (.ref x0), some (.int x1), some (.int x2), some (.int x3), some (.int x4), some (.int x5), some (.int x6), none, none, none, none, none] []
  unfold bM_kindOf_18 at hf
  refine v_iload (pc := 18) dM_kindOf_18 rfl ?_
  refine v_iload_n (i := 2) (pc := 20) dM_kindOf_20 rfl rfl ?_
  refine v_icmp_ge (pc := 21) (tgt := 225) dM_kindOf_21 rfl hf (fun hf => ?_) (fun hf => ?_)
  rotate_left
  · refine v_iconst (pc := 24) (0:Int32) dM_kindOf_24 rfl ?_
    refine v_istore (pc := 25) (ls' := [some (.ref x0), some (.int x1), some (.int x2), some (.int x3), some (.int x4), some (.int x5), some (.int x6), some (.int (0:Int32)), none, none, none, none]) dM_kindOf_25 (by decide) rfl ?_
    refine v_wk (ls' := [some (.ref x0), some (.int x1), some (.int x2), some (.int x3), some (.int x4), some (.int x5), some (.int x6), some (.int (0:Int32)), none, none, none, none]) ⟨rfl, rfl, rfl, rfl, rfl, rfl, rfl, rfl, trivial⟩ ?_
    exact tM_kindOf_27 hk18 n h x0 x1 x2 x3 x4 x5 x6 (0:Int32) hf
  refine v_iload (pc := 225) dM_kindOf_225 rfl ?_
  refine v_if_eq (pc := 227) (tgt := 234) dM_kindOf_227 rfl hf (fun hf => ?_) (fun hf => ?_)
  rotate_left
  · refine v_iconst (pc := 230) (2:Int32) dM_kindOf_230 rfl ?_
    refine v_goto (pc := 231) (tgt := 252) dM_kindOf_231 rfl ?_
    exact v_iret (pc := 252) dM_kindOf_252 (by decide) (by decide) hf
  refine v_iload (pc := 234) dM_kindOf_234 rfl ?_
  refine v_if_eq (pc := 236) (tgt := 243) dM_kindOf_236 rfl hf (fun hf => ?_) (fun hf => ?_)
  rotate_left
  · refine v_iconst (pc := 239) (3:Int32) dM_kindOf_239 rfl ?_
    refine v_goto (pc := 240) (tgt := 252) dM_kindOf_240 rfl ?_
    exact v_iret (pc := 252) dM_kindOf_252 (by decide) (by decide) hf
  refine v_iload_n (i := 3) (pc := 243) dM_kindOf_243 rfl rfl ?_
  refine v_if_eq (pc := 244) (tgt := 251) dM_kindOf_244 rfl hf (fun hf => ?_) (fun hf => ?_)
  · refine v_iconst (pc := 251) (0:Int32) dM_kindOf_251 rfl ?_
    exact v_iret (pc := 252) dM_kindOf_252 (by decide) (by decide) hf
  refine v_iconst (pc := 247) (1:Int32) dM_kindOf_247 rfl ?_
  refine v_goto (pc := 248) (tgt := 252) dM_kindOf_248 rfl ?_
  exact v_iret (pc := 252) dM_kindOf_252 (by decide) (by decide) hf
def fM_kindOf (n : Nat) (h : MH) (a_0 : Nat) (i_1 : Int32) : Option (MH × Int32) := ((gfR h a_0 [12] 9).bind fun a1 => ((rdI h a1 i_1).bind fun i2 => (fM_kindOf_18 n h a_0 i_1 i2 (1:Int32) (1:Int32) (1:Int32) (0:Int32))))
set_option maxRecDepth 20000 in
set_option maxHeartbeats 4000000 in
theorem sM_kindOf {g : Gh} {h' : MH} {r' : Int32} {n : Nat} {h : MH} {a_0 : Nat} {i_1 : Int32} (hf : fM_kindOf n h a_0 i_1 = some (h', r')) : Sp g yM_kindOf cM_kindOf 12 (some .int) rmM_kindOf h [.ref a_0, .int i_1] h' (some (.int r')) := by
  refine sp_of (by decide) (Nat.le_of_ble_eq_true rfl) ?_
  change V g yM_kindOf cM_kindOf 12 (some .int) rmM_kindOf (ZQ g rmM_kindOf h' (some (.int r'))) 0 0 h 0 [some (.ref a_0), some (.int i_1), none, none, none, none, none, none, none, none, none, none] []
  unfold fM_kindOf at hf
  refine v_aload_n (i := 0) (pc := 0) dM_kindOf_0 rfl rfl ?_
  refine v_getR (pc := 1) fgM_37 dM_kindOf_1 hf (fun a1 hf => ?_)
  refine v_iload_n (i := 1) (pc := 4) dM_kindOf_4 rfl rfl ?_
  refine v_iald (pc := 5) dM_kindOf_5 hf (fun i2 hf => ?_)
  refine v_istore_n (i := 2) (pc := 6) (ls' := [some (.ref a_0), some (.int i_1), some (.int i2), none, none, none, none, none, none, none, none, none]) dM_kindOf_6 rfl (by decide) rfl ?_
  refine v_iconst (pc := 7) (1:Int32) dM_kindOf_7 rfl ?_
  refine v_istore_n (i := 3) (pc := 8) (ls' := [some (.ref a_0), some (.int i_1), some (.int i2), some (.int (1:Int32)), none, none, none, none, none, none, none, none]) dM_kindOf_8 rfl (by decide) rfl ?_
  refine v_iconst (pc := 9) (1:Int32) dM_kindOf_9 rfl ?_
  refine v_istore (pc := 10) (ls' := [some (.ref a_0), some (.int i_1), some (.int i2), some (.int (1:Int32)), some (.int (1:Int32)), none, none, none, none, none, none, none]) dM_kindOf_10 (by decide) rfl ?_
  refine v_iconst (pc := 12) (1:Int32) dM_kindOf_12 rfl ?_
  refine v_istore (pc := 13) (ls' := [some (.ref a_0), some (.int i_1), some (.int i2), some (.int (1:Int32)), some (.int (1:Int32)), some (.int (1:Int32)), none, none, none, none, none, none]) dM_kindOf_13 (by decide) rfl ?_
  refine v_iconst (pc := 15) (0:Int32) dM_kindOf_15 rfl ?_
  refine v_istore (pc := 16) (ls' := [some (.ref a_0), some (.int i_1), some (.int i2), some (.int (1:Int32)), some (.int (1:Int32)), some (.int (1:Int32)), some (.int (0:Int32)), none, none, none, none, none]) dM_kindOf_16 (by decide) rfl ?_
  refine v_wk (ls' := [some (.ref a_0), some (.int i_1), some (.int i2), some (.int (1:Int32)), some (.int (1:Int32)), some (.int (1:Int32)), some (.int (0:Int32)), none, none, none, none, none]) ⟨rfl, rfl, rfl, rfl, rfl, rfl, rfl, trivial⟩ ?_
  exact tM_kindOf_18 n h a_0 i_1 i2 (1:Int32) (1:Int32) (1:Int32) (0:Int32) hf
abbrev rmM_lay : Room := { frames := 1, cells := 0, slots := 0, locals := 31 }
def bM_lay_55 (n : Nat) (k55 : (MH × Nat × Int32 × Int32) → Option (MH × Int32)) (h : MH) (x0 : Nat) (x1 : Int32) (x2 : Int32) : Option (MH × Int32) := (if (8:Int32) ≤ x2 then ((chk h x0 12).bind fun _ => (bnd2 (fM_kindOf n h x0 x1) fun h1 i2 => (some (h1, i2)))) else ((gfR h x0 [12] 11).bind fun a5 => ((gfR h x0 [12] 11).bind fun a6 => ((rdL h a6 ((80:Int32) + x2)).bind fun j7 => ((wrL h a5 (((8:Int32) * x1) + x2) j7).bind fun h8 => (k55 (h8, x0, x1, (x2 + (1:Int32)))))))))
def fM_lay_55 (n : Nat) (h : MH) (x0 : Nat) (x1 : Int32) (x2 : Int32) : Option (MH × Int32) := lp (fun n k s => bM_lay_55 n k s.1 s.2.1 s.2.2.1 s.2.2.2) n (h, x0, x1, x2)
set_option maxRecDepth 20000 in
set_option maxHeartbeats 4000000 in
theorem tM_lay_55 {g : Gh} {h' : MH} {r' : Int32} (n : Nat) (h : MH) (x0 : Nat) (x1 : Int32) (x2 : Int32) (hf : fM_lay_55 n h x0 x1 x2 = some (h', r')) : V g yM_lay cM_lay 3 (some .int) rmM_lay (ZQ g rmM_lay h' (some (.int r'))) 0 0 h 55 [some (.ref x0), some (.int x1), some (.int x2)] [] := by
  unfold fM_lay_55 at hf
  refine lp_ind (P := fun s => V g yM_lay cM_lay 3 (some .int) rmM_lay (ZQ g rmM_lay h' (some (.int r'))) 0 0 s.1 55 [some (.ref s.2.1), some (.int s.2.2.1), some (.int s.2.2.2)] []) (fun n k55 hk55 s hf => ?_) n (h, x0, x1, x2) hf
  obtain ⟨h, x0, x1, x2⟩ := s
  replace hk55 : ∀ (h : MH) (x0 : Nat) (x1 : Int32) (x2 : Int32), k55 (h, x0, x1, x2) = some (h', r') → V g yM_lay cM_lay 3 (some .int) rmM_lay (ZQ g rmM_lay h' (some (.int r'))) 0 0 h 55 [some (.ref x0), some (.int x1), some (.int x2)] [] := fun h x0 x1 x2 => hk55 (h, x0, x1, x2)
  replace hf : bM_lay_55 n k55 h x0 x1 x2 = some (h', r') := hf
  change V g yM_lay cM_lay 3 (some .int) rmM_lay (ZQ g rmM_lay h' (some (.int r'))) 0 0 h 55 [some (.ref x0), some (.int x1), some (.int x2)] []
  unfold bM_lay_55 at hf
  refine v_iload_n (i := 2) (pc := 55) dM_lay_55 rfl rfl ?_
  refine v_bipush (pc := 56) (8:Int32) dM_lay_56 rfl ?_
  refine v_icmp_ge (pc := 58) (tgt := 87) dM_lay_58 rfl hf (fun hf => ?_) (fun hf => ?_)
  · refine v_aload_n (i := 0) (pc := 87) dM_lay_87 rfl rfl ?_
    refine v_iload_n (i := 1) (pc := 88) dM_lay_88 rfl rfl ?_
    obtain ⟨u4, cu4, hf⟩ := bnd hf
    obtain ⟨h1, i2, e3, hf⟩ := bndp hf
    refine v_M1 (pc := 89) (As := [.int x1]) (rest := []) lmM_126 cu4 (sM_kindOf e3) ⟨Nat.le_of_ble_eq_true rfl, Nat.le_of_ble_eq_true rfl, Nat.le_of_ble_eq_true rfl, Nat.le_of_ble_eq_true rfl⟩ dM_lay_89 rfl rfl (Nat.le_of_ble_eq_true rfl) ?_
    exact v_iret (pc := 92) dM_lay_92 (by decide) (by decide) hf
  refine v_aload_n (i := 0) (pc := 61) dM_lay_61 rfl rfl ?_
  refine v_getR (pc := 62) fgM_43 dM_lay_62 hf (fun a5 hf => ?_)
  refine v_bipush (pc := 65) (8:Int32) dM_lay_65 rfl ?_
  refine v_iload_n (i := 1) (pc := 67) dM_lay_67 rfl rfl ?_
  refine v_imul (pc := 68) dM_lay_68 ?_
  refine v_iload_n (i := 2) (pc := 69) dM_lay_69 rfl rfl ?_
  refine v_iadd (pc := 70) dM_lay_70 ?_
  refine v_aload_n (i := 0) (pc := 71) dM_lay_71 rfl rfl ?_
  refine v_getR (pc := 72) fgM_43 dM_lay_72 hf (fun a6 hf => ?_)
  refine v_bipush (pc := 75) (80:Int32) dM_lay_75 rfl ?_
  refine v_iload_n (i := 2) (pc := 77) dM_lay_77 rfl rfl ?_
  refine v_iadd (pc := 78) dM_lay_78 ?_
  refine v_lald (pc := 79) dM_lay_79 hf (fun j7 hf => ?_)
  refine v_last (pc := 80) dM_lay_80 hf (fun h8 hf => ?_)
  refine v_iinc (pc := 81) (v := (x2 + (1:Int32))) (ls' := [some (.ref x0), some (.int x1), some (.int (x2 + (1:Int32)))]) dM_lay_81 rfl rfl (by decide) rfl ?_
  refine v_goto (pc := 84) (tgt := 55) dM_lay_84 rfl ?_
  refine v_wk (ls' := [some (.ref x0), some (.int x1), some (.int (x2 + (1:Int32)))]) ⟨rfl, rfl, rfl, trivial⟩ ?_
  exact hk55 h8 x0 x1 (x2 + (1:Int32)) hf
def bM_lay_20 (n : Nat) (k20 : (MH × Nat × Int32 × Int32) → Option (MH × Int32)) (h : MH) (x0 : Nat) (x1 : Int32) (x2 : Int32) : Option (MH × Int32) := (if (64:Int32) ≤ x2 then (fM_lay_55 n h x0 x1 (0:Int32)) else ((gfR h x0 [12] 10).bind fun a1 => ((gfR h x0 [12] 10).bind fun a2 => ((rdL h a2 ((640:Int32) + x2)).bind fun j3 => ((wrL h a1 (((64:Int32) * x1) + x2) j3).bind fun h4 => (k20 (h4, x0, x1, (x2 + (1:Int32)))))))))
def fM_lay_20 (n : Nat) (h : MH) (x0 : Nat) (x1 : Int32) (x2 : Int32) : Option (MH × Int32) := lp (fun n k s => bM_lay_20 n k s.1 s.2.1 s.2.2.1 s.2.2.2) n (h, x0, x1, x2)
set_option maxRecDepth 20000 in
set_option maxHeartbeats 4000000 in
theorem tM_lay_20 {g : Gh} {h' : MH} {r' : Int32} (n : Nat) (h : MH) (x0 : Nat) (x1 : Int32) (x2 : Int32) (hf : fM_lay_20 n h x0 x1 x2 = some (h', r')) : V g yM_lay cM_lay 3 (some .int) rmM_lay (ZQ g rmM_lay h' (some (.int r'))) 0 0 h 20 [some (.ref x0), some (.int x1), some (.int x2)] [] := by
  unfold fM_lay_20 at hf
  refine lp_ind (P := fun s => V g yM_lay cM_lay 3 (some .int) rmM_lay (ZQ g rmM_lay h' (some (.int r'))) 0 0 s.1 20 [some (.ref s.2.1), some (.int s.2.2.1), some (.int s.2.2.2)] []) (fun n k20 hk20 s hf => ?_) n (h, x0, x1, x2) hf
  obtain ⟨h, x0, x1, x2⟩ := s
  replace hk20 : ∀ (h : MH) (x0 : Nat) (x1 : Int32) (x2 : Int32), k20 (h, x0, x1, x2) = some (h', r') → V g yM_lay cM_lay 3 (some .int) rmM_lay (ZQ g rmM_lay h' (some (.int r'))) 0 0 h 20 [some (.ref x0), some (.int x1), some (.int x2)] [] := fun h x0 x1 x2 => hk20 (h, x0, x1, x2)
  replace hf : bM_lay_20 n k20 h x0 x1 x2 = some (h', r') := hf
  change V g yM_lay cM_lay 3 (some .int) rmM_lay (ZQ g rmM_lay h' (some (.int r'))) 0 0 h 20 [some (.ref x0), some (.int x1), some (.int x2)] []
  unfold bM_lay_20 at hf
  refine v_iload_n (i := 2) (pc := 20) dM_lay_20 rfl rfl ?_
  refine v_bipush (pc := 21) (64:Int32) dM_lay_21 rfl ?_
  refine v_icmp_ge (pc := 23) (tgt := 53) dM_lay_23 rfl hf (fun hf => ?_) (fun hf => ?_)
  · refine v_iconst (pc := 53) (0:Int32) dM_lay_53 rfl ?_
    refine v_istore_n (i := 2) (pc := 54) (ls' := [some (.ref x0), some (.int x1), some (.int (0:Int32))]) dM_lay_54 rfl (by decide) rfl ?_
    refine v_wk (ls' := [some (.ref x0), some (.int x1), some (.int (0:Int32))]) ⟨rfl, rfl, rfl, trivial⟩ ?_
    exact tM_lay_55 n h x0 x1 (0:Int32) hf
  refine v_aload_n (i := 0) (pc := 26) dM_lay_26 rfl rfl ?_
  refine v_getR (pc := 27) fgM_40 dM_lay_27 hf (fun a1 hf => ?_)
  refine v_bipush (pc := 30) (64:Int32) dM_lay_30 rfl ?_
  refine v_iload_n (i := 1) (pc := 32) dM_lay_32 rfl rfl ?_
  refine v_imul (pc := 33) dM_lay_33 ?_
  refine v_iload_n (i := 2) (pc := 34) dM_lay_34 rfl rfl ?_
  refine v_iadd (pc := 35) dM_lay_35 ?_
  refine v_aload_n (i := 0) (pc := 36) dM_lay_36 rfl rfl ?_
  refine v_getR (pc := 37) fgM_40 dM_lay_37 hf (fun a2 hf => ?_)
  refine v_sipush (pc := 40) (640:Int32) dM_lay_40 rfl ?_
  refine v_iload_n (i := 2) (pc := 43) dM_lay_43 rfl rfl ?_
  refine v_iadd (pc := 44) dM_lay_44 ?_
  refine v_lald (pc := 45) dM_lay_45 hf (fun j3 hf => ?_)
  refine v_last (pc := 46) dM_lay_46 hf (fun h4 hf => ?_)
  refine v_iinc (pc := 47) (v := (x2 + (1:Int32))) (ls' := [some (.ref x0), some (.int x1), some (.int (x2 + (1:Int32)))]) dM_lay_47 rfl rfl (by decide) rfl ?_
  refine v_goto (pc := 50) (tgt := 20) dM_lay_50 rfl ?_
  refine v_wk (ls' := [some (.ref x0), some (.int x1), some (.int (x2 + (1:Int32)))]) ⟨rfl, rfl, rfl, trivial⟩ ?_
  exact hk20 h4 x0 x1 (x2 + (1:Int32)) hf
def fM_lay (n : Nat) (h : MH) (a_0 : Nat) (i_1 : Int32) : Option (MH × Int32) := ((pf h a_0 [12] 1 (.int (0:Int32))).bind fun h1 => ((gfR h1 a_0 [12] 9).bind fun a2 => ((gfR h1 a_0 [12] 9).bind fun a3 => ((rdI h1 a3 (10:Int32)).bind fun i4 => ((wrI h1 a2 i_1 i4).bind fun h5 => (fM_lay_20 n h5 a_0 i_1 (0:Int32)))))))
set_option maxRecDepth 20000 in
set_option maxHeartbeats 4000000 in
theorem sM_lay {g : Gh} {h' : MH} {r' : Int32} {n : Nat} {h : MH} {a_0 : Nat} {i_1 : Int32} (hf : fM_lay n h a_0 i_1 = some (h', r')) : Sp g yM_lay cM_lay 3 (some .int) rmM_lay h [.ref a_0, .int i_1] h' (some (.int r')) := by
  refine sp_of (by decide) (Nat.le_of_ble_eq_true rfl) ?_
  change V g yM_lay cM_lay 3 (some .int) rmM_lay (ZQ g rmM_lay h' (some (.int r'))) 0 0 h 0 [some (.ref a_0), some (.int i_1), none] []
  unfold fM_lay at hf
  refine v_aload_n (i := 0) (pc := 0) dM_lay_0 rfl rfl ?_
  refine v_iconst (pc := 1) (0:Int32) dM_lay_1 rfl ?_
  refine v_put (pc := 2) fpM_7 (fun _ => ⟨rfl, rfl⟩) dM_lay_2 hf (fun h1 hf => ?_)
  refine v_aload_n (i := 0) (pc := 5) dM_lay_5 rfl rfl ?_
  refine v_getR (pc := 6) fgM_37 dM_lay_6 hf (fun a2 hf => ?_)
  refine v_iload_n (i := 1) (pc := 9) dM_lay_9 rfl rfl ?_
  refine v_aload_n (i := 0) (pc := 10) dM_lay_10 rfl rfl ?_
  refine v_getR (pc := 11) fgM_37 dM_lay_11 hf (fun a3 hf => ?_)
  refine v_bipush (pc := 14) (10:Int32) dM_lay_14 rfl ?_
  refine v_iald (pc := 16) dM_lay_16 hf (fun i4 hf => ?_)
  refine v_iast (pc := 17) dM_lay_17 hf (fun h5 hf => ?_)
  refine v_iconst (pc := 18) (0:Int32) dM_lay_18 rfl ?_
  refine v_istore_n (i := 2) (pc := 19) (ls' := [some (.ref a_0), some (.int i_1), some (.int (0:Int32))]) dM_lay_19 rfl (by decide) rfl ?_
  refine v_wk (ls' := [some (.ref a_0), some (.int i_1), some (.int (0:Int32))]) ⟨rfl, rfl, rfl, trivial⟩ ?_
  exact tM_lay_20 n h5 a_0 i_1 (0:Int32) hf
abbrev rmM_wipe : Room := { frames := 0, cells := 0, slots := 0, locals := 0 }
def bM_wipe_35 (n : Nat) (k35 : (MH × Nat × Int32) → Option MH) (h : MH) (x0 : Nat) (x2 : Int32) : Option MH := (if (8:Int32) ≤ x2 then (some h) else ((gfR h x0 [12] 11).bind fun a1 => ((wrL h a1 ((80:Int32) + x2) (0:Int64)).bind fun h2 => (k35 (h2, x0, (x2 + (1:Int32)))))))
def fM_wipe_35 (n : Nat) (h : MH) (x0 : Nat) (x2 : Int32) : Option MH := lp (fun n k s => bM_wipe_35 n k s.1 s.2.1 s.2.2) n (h, x0, x2)
set_option maxRecDepth 20000 in
set_option maxHeartbeats 4000000 in
theorem tM_wipe_35 {g : Gh} {h' : MH} (n : Nat) (h : MH) (x0 : Nat) (x2 : Int32) (hf : fM_wipe_35 n h x0 x2 = some h') : V g yM_wipe cM_wipe 3 none rmM_wipe (ZQ g rmM_wipe h' none) 0 0 h 35 [some (.ref x0), none, some (.int x2)] [] := by
  unfold fM_wipe_35 at hf
  refine lp_ind (P := fun s => V g yM_wipe cM_wipe 3 none rmM_wipe (ZQ g rmM_wipe h' none) 0 0 s.1 35 [some (.ref s.2.1), none, some (.int s.2.2)] []) (fun n k35 hk35 s hf => ?_) n (h, x0, x2) hf
  obtain ⟨h, x0, x2⟩ := s
  replace hk35 : ∀ (h : MH) (x0 : Nat) (x2 : Int32), k35 (h, x0, x2) = some h' → V g yM_wipe cM_wipe 3 none rmM_wipe (ZQ g rmM_wipe h' none) 0 0 h 35 [some (.ref x0), none, some (.int x2)] [] := fun h x0 x2 => hk35 (h, x0, x2)
  replace hf : bM_wipe_35 n k35 h x0 x2 = some h' := hf
  change V g yM_wipe cM_wipe 3 none rmM_wipe (ZQ g rmM_wipe h' none) 0 0 h 35 [some (.ref x0), none, some (.int x2)] []
  unfold bM_wipe_35 at hf
  refine v_iload_n (i := 2) (pc := 35) dM_wipe_35 rfl rfl ?_
  refine v_bipush (pc := 36) (8:Int32) dM_wipe_36 rfl ?_
  refine v_icmp_ge (pc := 38) (tgt := 57) dM_wipe_38 rfl hf (fun hf => ?_) (fun hf => ?_)
  · exact v_vret (pc := 57) dM_wipe_57 (by decide) (by decide) hf
  refine v_aload_n (i := 0) (pc := 41) dM_wipe_41 rfl rfl ?_
  refine v_getR (pc := 42) fgM_43 dM_wipe_42 hf (fun a1 hf => ?_)
  refine v_bipush (pc := 45) (80:Int32) dM_wipe_45 rfl ?_
  refine v_iload_n (i := 2) (pc := 47) dM_wipe_47 rfl rfl ?_
  refine v_iadd (pc := 48) dM_wipe_48 ?_
  refine v_lconst (pc := 49) (0:Int64) dM_wipe_49 rfl ?_
  refine v_last (pc := 50) dM_wipe_50 hf (fun h2 hf => ?_)
  refine v_iinc (pc := 51) (v := (x2 + (1:Int32))) (ls' := [some (.ref x0), none, some (.int (x2 + (1:Int32)))]) dM_wipe_51 rfl rfl (by decide) rfl ?_
  refine v_goto (pc := 54) (tgt := 35) dM_wipe_54 rfl ?_
  refine v_wk (ls' := [some (.ref x0), none, some (.int (x2 + (1:Int32)))]) ⟨rfl, rfl, trivial⟩ ?_
  exact hk35 h2 x0 (x2 + (1:Int32)) hf
def bM_wipe_10 (n : Nat) (k10 : (MH × Nat × Int32) → Option MH) (h : MH) (x0 : Nat) (x2 : Int32) : Option MH := (if (64:Int32) ≤ x2 then (fM_wipe_35 n h x0 (0:Int32)) else ((gfR h x0 [12] 10).bind fun a1 => ((wrL h a1 ((640:Int32) + x2) (0:Int64)).bind fun h2 => (k10 (h2, x0, (x2 + (1:Int32)))))))
def fM_wipe_10 (n : Nat) (h : MH) (x0 : Nat) (x2 : Int32) : Option MH := lp (fun n k s => bM_wipe_10 n k s.1 s.2.1 s.2.2) n (h, x0, x2)
set_option maxRecDepth 20000 in
set_option maxHeartbeats 4000000 in
theorem tM_wipe_10 {g : Gh} {h' : MH} (n : Nat) (h : MH) (x0 : Nat) (x2 : Int32) (hf : fM_wipe_10 n h x0 x2 = some h') : V g yM_wipe cM_wipe 3 none rmM_wipe (ZQ g rmM_wipe h' none) 0 0 h 10 [some (.ref x0), none, some (.int x2)] [] := by
  unfold fM_wipe_10 at hf
  refine lp_ind (P := fun s => V g yM_wipe cM_wipe 3 none rmM_wipe (ZQ g rmM_wipe h' none) 0 0 s.1 10 [some (.ref s.2.1), none, some (.int s.2.2)] []) (fun n k10 hk10 s hf => ?_) n (h, x0, x2) hf
  obtain ⟨h, x0, x2⟩ := s
  replace hk10 : ∀ (h : MH) (x0 : Nat) (x2 : Int32), k10 (h, x0, x2) = some h' → V g yM_wipe cM_wipe 3 none rmM_wipe (ZQ g rmM_wipe h' none) 0 0 h 10 [some (.ref x0), none, some (.int x2)] [] := fun h x0 x2 => hk10 (h, x0, x2)
  replace hf : bM_wipe_10 n k10 h x0 x2 = some h' := hf
  change V g yM_wipe cM_wipe 3 none rmM_wipe (ZQ g rmM_wipe h' none) 0 0 h 10 [some (.ref x0), none, some (.int x2)] []
  unfold bM_wipe_10 at hf
  refine v_iload_n (i := 2) (pc := 10) dM_wipe_10 rfl rfl ?_
  refine v_bipush (pc := 11) (64:Int32) dM_wipe_11 rfl ?_
  refine v_icmp_ge (pc := 13) (tgt := 33) dM_wipe_13 rfl hf (fun hf => ?_) (fun hf => ?_)
  · refine v_iconst (pc := 33) (0:Int32) dM_wipe_33 rfl ?_
    refine v_istore_n (i := 2) (pc := 34) (ls' := [some (.ref x0), none, some (.int (0:Int32))]) dM_wipe_34 rfl (by decide) rfl ?_
    refine v_wk (ls' := [some (.ref x0), none, some (.int (0:Int32))]) ⟨rfl, rfl, trivial⟩ ?_
    exact tM_wipe_35 n h x0 (0:Int32) hf
  refine v_aload_n (i := 0) (pc := 16) dM_wipe_16 rfl rfl ?_
  refine v_getR (pc := 17) fgM_40 dM_wipe_17 hf (fun a1 hf => ?_)
  refine v_sipush (pc := 20) (640:Int32) dM_wipe_20 rfl ?_
  refine v_iload_n (i := 2) (pc := 23) dM_wipe_23 rfl rfl ?_
  refine v_iadd (pc := 24) dM_wipe_24 ?_
  refine v_lconst (pc := 25) (0:Int64) dM_wipe_25 rfl ?_
  refine v_last (pc := 26) dM_wipe_26 hf (fun h2 hf => ?_)
  refine v_iinc (pc := 27) (v := (x2 + (1:Int32))) (ls' := [some (.ref x0), none, some (.int (x2 + (1:Int32)))]) dM_wipe_27 rfl rfl (by decide) rfl ?_
  refine v_goto (pc := 30) (tgt := 10) dM_wipe_30 rfl ?_
  refine v_wk (ls' := [some (.ref x0), none, some (.int (x2 + (1:Int32)))]) ⟨rfl, rfl, trivial⟩ ?_
  exact hk10 h2 x0 (x2 + (1:Int32)) hf
def fM_wipe (n : Nat) (h : MH) (a_0 : Nat) (i_1 : Int32) : Option MH := ((gfR h a_0 [12] 9).bind fun a1 => ((wrI h a1 (10:Int32) i_1).bind fun h2 => (fM_wipe_10 n h2 a_0 (0:Int32))))
set_option maxRecDepth 20000 in
set_option maxHeartbeats 4000000 in
theorem sM_wipe {g : Gh} {h' : MH} {n : Nat} {h : MH} {a_0 : Nat} {i_1 : Int32} (hf : fM_wipe n h a_0 i_1 = some h') : Sp g yM_wipe cM_wipe 3 none rmM_wipe h [.ref a_0, .int i_1] h' none := by
  refine sp_of (by decide) (Nat.le_of_ble_eq_true rfl) ?_
  change V g yM_wipe cM_wipe 3 none rmM_wipe (ZQ g rmM_wipe h' none) 0 0 h 0 [some (.ref a_0), some (.int i_1), none] []
  unfold fM_wipe at hf
  refine v_aload_n (i := 0) (pc := 0) dM_wipe_0 rfl rfl ?_
  refine v_getR (pc := 1) fgM_37 dM_wipe_1 hf (fun a1 hf => ?_)
  refine v_bipush (pc := 4) (10:Int32) dM_wipe_4 rfl ?_
  refine v_iload_n (i := 1) (pc := 6) dM_wipe_6 rfl rfl ?_
  refine v_iast (pc := 7) dM_wipe_7 hf (fun h2 hf => ?_)
  refine v_iconst (pc := 8) (0:Int32) dM_wipe_8 rfl ?_
  refine v_istore_n (i := 2) (pc := 9) (ls' := [some (.ref a_0), some (.int i_1), some (.int (0:Int32))]) dM_wipe_9 rfl (by decide) rfl ?_
  refine v_wk (ls' := [some (.ref a_0), none, some (.int (0:Int32))]) ⟨rfl, rfl, trivial⟩ ?_
  exact tM_wipe_10 n h2 a_0 (0:Int32) hf
abbrev rmM_table : Room := { frames := 2, cells := 0, slots := 0, locals := 53 }
def fM_table_83 (n : Nat) (h : MH) (x0 : Nat) : Option (MH × Int32) := ((chk h x0 12).bind fun _ => (bnd2 (fM_found h x0 (2:Int32)) fun h1 i2 => (some (h1, i2))))
set_option maxRecDepth 20000 in
set_option maxHeartbeats 4000000 in
theorem tM_table_83 {g : Gh} {h' : MH} {r' : Int32} (n : Nat) (h : MH) (x0 : Nat) (hf : fM_table_83 n h x0 = some (h', r')) : V g yM_table cM_table 9 (some .int) rmM_table (ZQ g rmM_table h' (some (.int r'))) 0 0 h 83 [some (.ref x0), none, none, none, none, none, none, none, none] [] := by
  unfold fM_table_83 at hf
  refine v_aload_n (i := 0) (pc := 83) dM_table_83 rfl rfl ?_
  refine v_iconst (pc := 84) (2:Int32) dM_table_84 rfl ?_
  obtain ⟨u4, cu4, hf⟩ := bnd hf
  obtain ⟨h1, i2, e3, hf⟩ := bndp hf
  refine v_M1 (pc := 85) (As := [.int (2:Int32)]) (rest := []) lmM_119 cu4 (sM_found e3) ⟨Nat.le_of_ble_eq_true rfl, Nat.le_of_ble_eq_true rfl, Nat.le_of_ble_eq_true rfl, Nat.le_of_ble_eq_true rfl⟩ dM_table_85 rfl rfl (Nat.le_of_ble_eq_true rfl) ?_
  exact v_iret (pc := 88) dM_table_88 (by decide) (by decide) hf
def fM_table_262 (k144 : (MH × Nat × Int32 × Int32 × Int32 × Int32 × Int32 × Int32) → Option (MH × Int32)) (n : Nat) (h : MH) (x0 : Nat) (x1 : Int32) (x2 : Int32) (x3 : Int32) (x4 : Int32) (x5 : Int32) (x6 : Int32) : Option (MH × Int32) := (k144 (h, x0, x1, x2, x3, x4, x5, (x6 + (1:Int32))))
set_option maxRecDepth 20000 in
set_option maxHeartbeats 4000000 in
theorem tM_table_262 {g : Gh} {h' : MH} {r' : Int32} {k144 : (MH × Nat × Int32 × Int32 × Int32 × Int32 × Int32 × Int32) → Option (MH × Int32)} (hk144 : ∀ (h : MH) (x0 : Nat) (x1 : Int32) (x2 : Int32) (x3 : Int32) (x4 : Int32) (x5 : Int32) (x6 : Int32), k144 (h, x0, x1, x2, x3, x4, x5, x6) = some (h', r') → V g yM_table cM_table 9 (some .int) rmM_table (ZQ g rmM_table h' (some (.int r'))) 0 0 h 144 [some (.ref x0), some (.int x1), some (.int x2), some (.int x3), some (.int x4), some (.int x5), some (.int x6), none, none] []) (n : Nat) (h : MH) (x0 : Nat) (x1 : Int32) (x2 : Int32) (x3 : Int32) (x4 : Int32) (x5 : Int32) (x6 : Int32) (hf : fM_table_262 k144 n h x0 x1 x2 x3 x4 x5 x6 = some (h', r')) : V g yM_table cM_table 9 (some .int) rmM_table (ZQ g rmM_table h' (some (.int r'))) 0 0 h 262 [some (.ref x0), some (.int x1), some (.int x2), some (.int x3), some (.int x4), some (.int x5), some (.int x6), none, none] [] := by
  unfold fM_table_262 at hf
  refine v_iinc (pc := 262) (v := (x6 + (1:Int32))) (ls' := [some (.ref x0), some (.int x1), some (.int x2), some (.int x3), some (.int x4), some (.int x5), some (.int (x6 + (1:Int32))), none, none]) dM_table_262 rfl rfl (by decide) rfl ?_
  refine v_goto (pc := 265) (tgt := 144) dM_table_265 rfl ?_
  refine v_wk (ls' := [some (.ref x0), some (.int x1), some (.int x2), some (.int x3), some (.int x4), some (.int x5), some (.int (x6 + (1:Int32))), none, none]) ⟨rfl, rfl, rfl, rfl, rfl, rfl, rfl, trivial⟩ ?_
  exact hk144 h x0 x1 x2 x3 x4 x5 (x6 + (1:Int32)) hf
def bM_table_144 (n : Nat) (k144 : (MH × Nat × Int32 × Int32 × Int32 × Int32 × Int32 × Int32) → Option (MH × Int32)) (h : MH) (x0 : Nat) (x1 : Int32) (x2 : Int32) (x3 : Int32) (x4 : Int32) (x5 : Int32) (x6 : Int32) : Option (MH × Int32) := (if x5 ≤ x6 then ((chk h x0 12).bind fun _ => (bnd2 (fM_lay n h x0 x1) fun h1 i2 => (some (h1, i2)))) else ((gfR h x0 [12] 8).bind fun a5 => ((rdL h a5 ((((80:Int32) * x2) + x3) + ((2:Int32) * x6))).bind fun j6 => ((chk h x0 12).bind fun _ => (bnd2 (fM_modulo h x0 j6) fun h7 j8 => ((gfR h7 x0 [12] 8).bind fun a9 => ((rdL h7 a9 (((((80:Int32) * x2) + x3) + ((2:Int32) * x6)) + (1:Int32))).bind fun j10 => ((chk h7 x0 12).bind fun _ => (bnd2 (fM_modulo h7 x0 j10) fun h11 j12 => ((chk h11 x0 12).bind fun _ => (bnd2 (fM_inverse n h11 x0 j12) fun h13 j14 => ((gfI h13 x0 [12] 2).bind fun i15 => (nzL i15.toInt64 (if (x4 * x4) ≤ x6 then ((gfR h13 x0 [12] 11).bind fun a16 => ((wrL h13 a16 (((80:Int32) + x6) - (x4 * x4)) (lrm (j8 * j14) i15.toInt64)).bind fun h17 => (fM_table_262 k144 n h17 x0 x1 x2 x3 x4 x5 x6))) else ((gfR h13 x0 [12] 10).bind fun a18 => (nzI x4 (nzI x4 ((wrL h13 a18 (((640:Int32) + ((8:Int32) * (x6 / x4))) + (irm x6 x4)) (lrm (j8 * j14) i15.toInt64)).bind fun h19 => (fM_table_262 k144 n h19 x0 x1 x2 x3 x4 x5 x6)))))))))))))))))))
def fM_table_144 (n : Nat) (h : MH) (x0 : Nat) (x1 : Int32) (x2 : Int32) (x3 : Int32) (x4 : Int32) (x5 : Int32) (x6 : Int32) : Option (MH × Int32) := lp (fun n k s => bM_table_144 n k s.1 s.2.1 s.2.2.1 s.2.2.2.1 s.2.2.2.2.1 s.2.2.2.2.2.1 s.2.2.2.2.2.2.1 s.2.2.2.2.2.2.2) n (h, x0, x1, x2, x3, x4, x5, x6)
set_option maxRecDepth 20000 in
set_option maxHeartbeats 4000000 in
theorem tM_table_144 {g : Gh} {h' : MH} {r' : Int32} (n : Nat) (h : MH) (x0 : Nat) (x1 : Int32) (x2 : Int32) (x3 : Int32) (x4 : Int32) (x5 : Int32) (x6 : Int32) (hf : fM_table_144 n h x0 x1 x2 x3 x4 x5 x6 = some (h', r')) : V g yM_table cM_table 9 (some .int) rmM_table (ZQ g rmM_table h' (some (.int r'))) 0 0 h 144 [some (.ref x0), some (.int x1), some (.int x2), some (.int x3), some (.int x4), some (.int x5), some (.int x6), none, none] [] := by
  unfold fM_table_144 at hf
  refine lp_ind (P := fun s => V g yM_table cM_table 9 (some .int) rmM_table (ZQ g rmM_table h' (some (.int r'))) 0 0 s.1 144 [some (.ref s.2.1), some (.int s.2.2.1), some (.int s.2.2.2.1), some (.int s.2.2.2.2.1), some (.int s.2.2.2.2.2.1), some (.int s.2.2.2.2.2.2.1), some (.int s.2.2.2.2.2.2.2), none, none] []) (fun n k144 hk144 s hf => ?_) n (h, x0, x1, x2, x3, x4, x5, x6) hf
  obtain ⟨h, x0, x1, x2, x3, x4, x5, x6⟩ := s
  replace hk144 : ∀ (h : MH) (x0 : Nat) (x1 : Int32) (x2 : Int32) (x3 : Int32) (x4 : Int32) (x5 : Int32) (x6 : Int32), k144 (h, x0, x1, x2, x3, x4, x5, x6) = some (h', r') → V g yM_table cM_table 9 (some .int) rmM_table (ZQ g rmM_table h' (some (.int r'))) 0 0 h 144 [some (.ref x0), some (.int x1), some (.int x2), some (.int x3), some (.int x4), some (.int x5), some (.int x6), none, none] [] := fun h x0 x1 x2 x3 x4 x5 x6 => hk144 (h, x0, x1, x2, x3, x4, x5, x6)
  replace hf : bM_table_144 n k144 h x0 x1 x2 x3 x4 x5 x6 = some (h', r') := hf
  change V g yM_table cM_table 9 (some .int) rmM_table (ZQ g rmM_table h' (some (.int r'))) 0 0 h 144 [some (.ref x0), some (.int x1), some (.int x2), some (.int x3), some (.int x4), some (.int x5), some (.int x6), none, none] []
  unfold bM_table_144 at hf
  refine v_iload (pc := 144) dM_table_144 rfl ?_
  refine v_iload (pc := 146) dM_table_146 rfl ?_
  refine v_icmp_ge (pc := 148) (tgt := 268) dM_table_148 rfl hf (fun hf => ?_) (fun hf => ?_)
  · refine v_aload_n (i := 0) (pc := 268) dM_table_268 rfl rfl ?_
    refine v_iload_n (i := 1) (pc := 269) dM_table_269 rfl rfl ?_
    obtain ⟨u4, cu4, hf⟩ := bnd hf
    obtain ⟨h1, i2, e3, hf⟩ := bndp hf
    refine v_M1 (pc := 270) (As := [.int x1]) (rest := []) lmM_145 cu4 (sM_lay e3) ⟨Nat.le_of_ble_eq_true rfl, Nat.le_of_ble_eq_true rfl, Nat.le_of_ble_eq_true rfl, Nat.le_of_ble_eq_true rfl⟩ dM_table_270 rfl rfl (Nat.le_of_ble_eq_true rfl) ?_
    exact v_iret (pc := 273) dM_table_273 (by decide) (by decide) hf
  refine v_aload_n (i := 0) (pc := 151) dM_table_151 rfl rfl ?_
  refine v_aload_n (i := 0) (pc := 152) dM_table_152 rfl rfl ?_
  refine v_getR (pc := 153) fgM_33 dM_table_153 hf (fun a5 hf => ?_)
  refine v_bipush (pc := 156) (80:Int32) dM_table_156 rfl ?_
  refine v_iload_n (i := 2) (pc := 158) dM_table_158 rfl rfl ?_
  refine v_imul (pc := 159) dM_table_159 ?_
  refine v_iload_n (i := 3) (pc := 160) dM_table_160 rfl rfl ?_
  refine v_iadd (pc := 161) dM_table_161 ?_
  refine v_iconst (pc := 162) (2:Int32) dM_table_162 rfl ?_
  refine v_iload (pc := 163) dM_table_163 rfl ?_
  refine v_imul (pc := 165) dM_table_165 ?_
  refine v_iadd (pc := 166) dM_table_166 ?_
  refine v_lald (pc := 167) dM_table_167 hf (fun j6 hf => ?_)
  obtain ⟨u28, cu28, hf⟩ := bnd hf
  obtain ⟨h7, j8, e27, hf⟩ := bndp hf
  refine v_M1 (pc := 168) (As := [.long j6]) (rest := []) lmM_134 cu28 (sM_modulo e27) ⟨Nat.le_of_ble_eq_true rfl, Nat.le_of_ble_eq_true rfl, Nat.le_of_ble_eq_true rfl, Nat.le_of_ble_eq_true rfl⟩ dM_table_168 rfl rfl (Nat.le_of_ble_eq_true rfl) ?_
  refine v_aload_n (i := 0) (pc := 171) dM_table_171 rfl rfl ?_
  refine v_aload_n (i := 0) (pc := 172) dM_table_172 rfl rfl ?_
  refine v_aload_n (i := 0) (pc := 173) dM_table_173 rfl rfl ?_
  refine v_getR (pc := 174) fgM_33 dM_table_174 hf (fun a9 hf => ?_)
  refine v_bipush (pc := 177) (80:Int32) dM_table_177 rfl ?_
  refine v_iload_n (i := 2) (pc := 179) dM_table_179 rfl rfl ?_
  refine v_imul (pc := 180) dM_table_180 ?_
  refine v_iload_n (i := 3) (pc := 181) dM_table_181 rfl rfl ?_
  refine v_iadd (pc := 182) dM_table_182 ?_
  refine v_iconst (pc := 183) (2:Int32) dM_table_183 rfl ?_
  refine v_iload (pc := 184) dM_table_184 rfl ?_
  refine v_imul (pc := 186) dM_table_186 ?_
  refine v_iadd (pc := 187) dM_table_187 ?_
  refine v_iconst (pc := 188) (1:Int32) dM_table_188 rfl ?_
  refine v_iadd (pc := 189) dM_table_189 ?_
  refine v_lald (pc := 190) dM_table_190 hf (fun j10 hf => ?_)
  obtain ⟨u26, cu26, hf⟩ := bnd hf
  obtain ⟨h11, j12, e25, hf⟩ := bndp hf
  refine v_M1 (pc := 191) (As := [.long j10]) (rest := [.ref x0, .long j8]) lmM_134 cu26 (sM_modulo e25) ⟨Nat.le_of_ble_eq_true rfl, Nat.le_of_ble_eq_true rfl, Nat.le_of_ble_eq_true rfl, Nat.le_of_ble_eq_true rfl⟩ dM_table_191 rfl rfl (Nat.le_of_ble_eq_true rfl) ?_
  obtain ⟨u24, cu24, hf⟩ := bnd hf
  obtain ⟨h13, j14, e23, hf⟩ := bndp hf
  refine v_M1 (pc := 194) (As := [.long j12]) (rest := [.long j8]) lmM_142 cu24 (sM_inverse e23) ⟨Nat.le_of_ble_eq_true rfl, Nat.le_of_ble_eq_true rfl, Nat.le_of_ble_eq_true rfl, Nat.le_of_ble_eq_true rfl⟩ dM_table_194 rfl rfl (Nat.le_of_ble_eq_true rfl) ?_
  refine v_lmul (pc := 197) dM_table_197 ?_
  refine v_aload_n (i := 0) (pc := 198) dM_table_198 rfl rfl ?_
  refine v_getI (pc := 199) fgM_80 dM_table_199 hf (fun i15 hf => ?_)
  refine v_i2l (pc := 202) dM_table_202 ?_
  obtain ⟨z22, hf⟩ := nzL_of hf
  refine v_lrem (pc := 203) dM_table_203 z22 ?_
  refine v_lstore (pc := 204) (ls' := [some (.ref x0), some (.int x1), some (.int x2), some (.int x3), some (.int x4), some (.int x5), some (.int x6), some (.long (lrm (j8 * j14) i15.toInt64)), none]) dM_table_204 (by decide) rfl ?_
  refine v_iload (pc := 206) dM_table_206 rfl ?_
  refine v_iload (pc := 208) dM_table_208 rfl ?_
  refine v_iload (pc := 210) dM_table_210 rfl ?_
  refine v_imul (pc := 212) dM_table_212 ?_
  refine v_icmp_ge (pc := 213) (tgt := 244) dM_table_213 rfl hf (fun hf => ?_) (fun hf => ?_)
  · refine v_aload_n (i := 0) (pc := 244) dM_table_244 rfl rfl ?_
    refine v_getR (pc := 245) fgM_43 dM_table_245 hf (fun a16 hf => ?_)
    refine v_bipush (pc := 248) (80:Int32) dM_table_248 rfl ?_
    refine v_iload (pc := 250) dM_table_250 rfl ?_
    refine v_iadd (pc := 252) dM_table_252 ?_
    refine v_iload (pc := 253) dM_table_253 rfl ?_
    refine v_iload (pc := 255) dM_table_255 rfl ?_
    refine v_imul (pc := 257) dM_table_257 ?_
    refine v_isub (pc := 258) dM_table_258 ?_
    refine v_lload (pc := 259) dM_table_259 rfl ?_
    refine v_last (pc := 261) dM_table_261 hf (fun h17 hf => ?_)
    refine v_wk (ls' := [some (.ref x0), some (.int x1), some (.int x2), some (.int x3), some (.int x4), some (.int x5), some (.int x6), none, none]) ⟨rfl, rfl, rfl, rfl, rfl, rfl, rfl, trivial⟩ ?_
    exact tM_table_262 hk144 n h17 x0 x1 x2 x3 x4 x5 x6 hf
  refine v_aload_n (i := 0) (pc := 216) dM_table_216 rfl rfl ?_
  refine v_getR (pc := 217) fgM_40 dM_table_217 hf (fun a18 hf => ?_)
  refine v_sipush (pc := 220) (640:Int32) dM_table_220 rfl ?_
  refine v_bipush (pc := 223) (8:Int32) dM_table_223 rfl ?_
  refine v_iload (pc := 225) dM_table_225 rfl ?_
  refine v_iload (pc := 227) dM_table_227 rfl ?_
  obtain ⟨z21, hf⟩ := nzI_of hf
  refine v_idiv (pc := 229) dM_table_229 z21 ?_
  refine v_imul (pc := 230) dM_table_230 ?_
  refine v_iadd (pc := 231) dM_table_231 ?_
  refine v_iload (pc := 232) dM_table_232 rfl ?_
  refine v_iload (pc := 234) dM_table_234 rfl ?_
  obtain ⟨z20, hf⟩ := nzI_of hf
  refine v_irem (pc := 236) dM_table_236 z20 ?_
  refine v_iadd (pc := 237) dM_table_237 ?_
  refine v_lload (pc := 238) dM_table_238 rfl ?_
  refine v_last (pc := 240) dM_table_240 hf (fun h19 hf => ?_)
  refine v_goto (pc := 241) (tgt := 262) dM_table_241 rfl ?_
  refine v_wk (ls' := [some (.ref x0), some (.int x1), some (.int x2), some (.int x3), some (.int x4), some (.int x5), some (.int x6), none, none]) ⟨rfl, rfl, rfl, rfl, rfl, rfl, rfl, trivial⟩ ?_
  exact tM_table_262 hk144 n h19 x0 x1 x2 x3 x4 x5 x6 hf
def bM_table_92 (n : Nat) (k92 : (MH × Nat × Int32 × Int32 × Int32 × Int32 × Int32 × Int32) → Option (MH × Int32)) (h : MH) (x0 : Nat) (x1 : Int32) (x2 : Int32) (x3 : Int32) (x4 : Int32) (x5 : Int32) (x6 : Int32) : Option (MH × Int32) := (if x5 ≤ x6 then ((chk h x0 12).bind fun _ => ((fM_wipe n h x0 x4).bind fun h1 => (fM_table_144 n h1 x0 x1 x2 x3 x4 x5 (0:Int32)))) else ((gfR h x0 [12] 8).bind fun a4 => ((rdL h a4 (((((80:Int32) * x2) + x3) + ((2:Int32) * x6)) + (1:Int32))).bind fun j5 => ((chk h x0 12).bind fun _ => (bnd2 (fM_modulo h x0 j5) fun h6 j7 => (if j7 = (0:Int64) then (some (h6, (-1000001:Int32))) else (k92 (h6, x0, x1, x2, x3, x4, x5, (x6 + (1:Int32))))))))))
def fM_table_92 (n : Nat) (h : MH) (x0 : Nat) (x1 : Int32) (x2 : Int32) (x3 : Int32) (x4 : Int32) (x5 : Int32) (x6 : Int32) : Option (MH × Int32) := lp (fun n k s => bM_table_92 n k s.1 s.2.1 s.2.2.1 s.2.2.2.1 s.2.2.2.2.1 s.2.2.2.2.2.1 s.2.2.2.2.2.2.1 s.2.2.2.2.2.2.2) n (h, x0, x1, x2, x3, x4, x5, x6)
set_option maxRecDepth 20000 in
set_option maxHeartbeats 4000000 in
theorem tM_table_92 {g : Gh} {h' : MH} {r' : Int32} (n : Nat) (h : MH) (x0 : Nat) (x1 : Int32) (x2 : Int32) (x3 : Int32) (x4 : Int32) (x5 : Int32) (x6 : Int32) (hf : fM_table_92 n h x0 x1 x2 x3 x4 x5 x6 = some (h', r')) : V g yM_table cM_table 9 (some .int) rmM_table (ZQ g rmM_table h' (some (.int r'))) 0 0 h 92 [some (.ref x0), some (.int x1), some (.int x2), some (.int x3), some (.int x4), some (.int x5), some (.int x6), none, none] [] := by
  unfold fM_table_92 at hf
  refine lp_ind (P := fun s => V g yM_table cM_table 9 (some .int) rmM_table (ZQ g rmM_table h' (some (.int r'))) 0 0 s.1 92 [some (.ref s.2.1), some (.int s.2.2.1), some (.int s.2.2.2.1), some (.int s.2.2.2.2.1), some (.int s.2.2.2.2.2.1), some (.int s.2.2.2.2.2.2.1), some (.int s.2.2.2.2.2.2.2), none, none] []) (fun n k92 hk92 s hf => ?_) n (h, x0, x1, x2, x3, x4, x5, x6) hf
  obtain ⟨h, x0, x1, x2, x3, x4, x5, x6⟩ := s
  replace hk92 : ∀ (h : MH) (x0 : Nat) (x1 : Int32) (x2 : Int32) (x3 : Int32) (x4 : Int32) (x5 : Int32) (x6 : Int32), k92 (h, x0, x1, x2, x3, x4, x5, x6) = some (h', r') → V g yM_table cM_table 9 (some .int) rmM_table (ZQ g rmM_table h' (some (.int r'))) 0 0 h 92 [some (.ref x0), some (.int x1), some (.int x2), some (.int x3), some (.int x4), some (.int x5), some (.int x6), none, none] [] := fun h x0 x1 x2 x3 x4 x5 x6 => hk92 (h, x0, x1, x2, x3, x4, x5, x6)
  replace hf : bM_table_92 n k92 h x0 x1 x2 x3 x4 x5 x6 = some (h', r') := hf
  change V g yM_table cM_table 9 (some .int) rmM_table (ZQ g rmM_table h' (some (.int r'))) 0 0 h 92 [some (.ref x0), some (.int x1), some (.int x2), some (.int x3), some (.int x4), some (.int x5), some (.int x6), none, none] []
  unfold bM_table_92 at hf
  refine v_iload (pc := 92) dM_table_92 rfl ?_
  refine v_iload (pc := 94) dM_table_94 rfl ?_
  refine v_icmp_ge (pc := 96) (tgt := 135) dM_table_96 rfl hf (fun hf => ?_) (fun hf => ?_)
  · refine v_aload_n (i := 0) (pc := 135) dM_table_135 rfl rfl ?_
    refine v_iload (pc := 136) dM_table_136 rfl ?_
    obtain ⟨u3, cu3, hf⟩ := bnd hf
    obtain ⟨h1, e2, hf⟩ := bnd hf
    refine v_M0 (pc := 138) (As := [.int x4]) (rest := []) lmM_138 cu3 (sM_wipe e2) ⟨Nat.le_of_ble_eq_true rfl, Nat.le_of_ble_eq_true rfl, Nat.le_of_ble_eq_true rfl, Nat.le_of_ble_eq_true rfl⟩ dM_table_138 rfl rfl (Nat.le_of_ble_eq_true rfl) ?_
    refine v_iconst (pc := 141) (0:Int32) dM_table_141 rfl ?_
    refine v_istore (pc := 142) (ls' := [some (.ref x0), some (.int x1), some (.int x2), some (.int x3), some (.int x4), some (.int x5), some (.int (0:Int32)), none, none]) dM_table_142 (by decide) rfl ?_
    refine v_wk (ls' := [some (.ref x0), some (.int x1), some (.int x2), some (.int x3), some (.int x4), some (.int x5), some (.int (0:Int32)), none, none]) ⟨rfl, rfl, rfl, rfl, rfl, rfl, rfl, trivial⟩ ?_
    exact tM_table_144 n h1 x0 x1 x2 x3 x4 x5 (0:Int32) hf
  refine v_aload_n (i := 0) (pc := 99) dM_table_99 rfl rfl ?_
  refine v_aload_n (i := 0) (pc := 100) dM_table_100 rfl rfl ?_
  refine v_getR (pc := 101) fgM_33 dM_table_101 hf (fun a4 hf => ?_)
  refine v_bipush (pc := 104) (80:Int32) dM_table_104 rfl ?_
  refine v_iload_n (i := 2) (pc := 106) dM_table_106 rfl rfl ?_
  refine v_imul (pc := 107) dM_table_107 ?_
  refine v_iload_n (i := 3) (pc := 108) dM_table_108 rfl rfl ?_
  refine v_iadd (pc := 109) dM_table_109 ?_
  refine v_iconst (pc := 110) (2:Int32) dM_table_110 rfl ?_
  refine v_iload (pc := 111) dM_table_111 rfl ?_
  refine v_imul (pc := 113) dM_table_113 ?_
  refine v_iadd (pc := 114) dM_table_114 ?_
  refine v_iconst (pc := 115) (1:Int32) dM_table_115 rfl ?_
  refine v_iadd (pc := 116) dM_table_116 ?_
  refine v_lald (pc := 117) dM_table_117 hf (fun j5 hf => ?_)
  obtain ⟨u9, cu9, hf⟩ := bnd hf
  obtain ⟨h6, j7, e8, hf⟩ := bndp hf
  refine v_M1 (pc := 118) (As := [.long j5]) (rest := []) lmM_134 cu9 (sM_modulo e8) ⟨Nat.le_of_ble_eq_true rfl, Nat.le_of_ble_eq_true rfl, Nat.le_of_ble_eq_true rfl, Nat.le_of_ble_eq_true rfl⟩ dM_table_118 rfl rfl (Nat.le_of_ble_eq_true rfl) ?_
  refine v_lconst (pc := 121) (0:Int64) dM_table_121 rfl ?_
  refine v_lcmp_ne (pc := 122) (tgt := 129) dM_table_122 dM_table_123 rfl hf (fun hf => ?_) (fun hf => ?_)
  · refine v_ldc (pc := 126) dM_table_126 kiM_90 ?_
    exact v_iret (pc := 128) dM_table_128 (by decide) (by decide) hf
  refine v_iinc (pc := 129) (v := (x6 + (1:Int32))) (ls' := [some (.ref x0), some (.int x1), some (.int x2), some (.int x3), some (.int x4), some (.int x5), some (.int (x6 + (1:Int32))), none, none]) dM_table_129 rfl rfl (by decide) rfl ?_
  refine v_goto (pc := 132) (tgt := 92) dM_table_132 rfl ?_
  refine v_wk (ls' := [some (.ref x0), some (.int x1), some (.int x2), some (.int x3), some (.int x4), some (.int x5), some (.int (x6 + (1:Int32))), none, none]) ⟨rfl, rfl, rfl, rfl, rfl, rfl, rfl, trivial⟩ ?_
  exact hk92 h6 x0 x1 x2 x3 x4 x5 (x6 + (1:Int32)) hf
def fM_table (n : Nat) (h : MH) (a_0 : Nat) (i_1 : Int32) (i_2 : Int32) (i_3 : Int32) (i_4 : Int32) : Option (MH × Int32) := ((pf h a_0 [12] 0 (.int (0:Int32))).bind fun h1 => (bnd2 (fM_isPlace h1 i_1) fun h2 i3 => (if i3 = (0:Int32) then (some (h2, (-1000001:Int32))) else (bnd2 (fM_isSheet h2 i_2) fun h4 i5 => (if i5 = (0:Int32) then (some (h4, (-1000001:Int32))) else (bnd2 (fM_in h4 i_4.toInt64 (1:Int64) (4:Int64)) fun h6 i7 => (if i7 = (0:Int32) then (some (h6, (-1000001:Int32))) else ((gfR h6 a_0 [12] 6).bind fun a8 => ((rdI h6 a8 i_2).bind fun i9 => (if (0:Int32) ≤ i9 then (if i_3 < (0:Int32) then (fM_table_83 n h6 a_0) else ((gfR h6 a_0 [12] 7).bind fun a10 => ((rdI h6 a10 i_2).bind fun i11 => (if (i_3.toInt64 + ((2:Int32) * ((i_4 * i_4) + i_4)).toInt64) ≤ i11.toInt64 then (fM_table_92 n h6 a_0 i_1 i_2 i_3 i_4 ((i_4 * i_4) + i_4) (0:Int32)) else (fM_table_83 n h6 a_0))))) else ((chk h6 a_0 12).bind fun _ => (bnd2 (fM_found h6 a_0 (1:Int32)) fun h12 i13 => (some (h12, i13))))))))))))))
set_option maxRecDepth 20000 in
set_option maxHeartbeats 4000000 in
theorem sM_table {g : Gh} {h' : MH} {r' : Int32} {n : Nat} {h : MH} {a_0 : Nat} {i_1 : Int32} {i_2 : Int32} {i_3 : Int32} {i_4 : Int32} (hf : fM_table n h a_0 i_1 i_2 i_3 i_4 = some (h', r')) : Sp g yM_table cM_table 9 (some .int) rmM_table h [.ref a_0, .int i_1, .int i_2, .int i_3, .int i_4] h' (some (.int r')) := by
  refine sp_of (by decide) (Nat.le_of_ble_eq_true rfl) ?_
  change V g yM_table cM_table 9 (some .int) rmM_table (ZQ g rmM_table h' (some (.int r'))) 0 0 h 0 [some (.ref a_0), some (.int i_1), some (.int i_2), some (.int i_3), some (.int i_4), none, none, none, none] []
  unfold fM_table at hf
  refine v_aload_n (i := 0) (pc := 0) dM_table_0 rfl rfl ?_
  refine v_iconst (pc := 1) (0:Int32) dM_table_1 rfl ?_
  refine v_put (pc := 2) fpM_1 (fun _ => ⟨rfl, rfl⟩) dM_table_2 hf (fun h1 hf => ?_)
  refine v_iload_n (i := 1) (pc := 5) dM_table_5 rfl rfl ?_
  obtain ⟨h2, i3, e18, hf⟩ := bndp hf
  refine v_S1 (pc := 6) (As := [.int i_1]) (rest := []) lsM_129 (sM_isPlace e18) ⟨Nat.le_of_ble_eq_true rfl, Nat.le_of_ble_eq_true rfl, Nat.le_of_ble_eq_true rfl, Nat.le_of_ble_eq_true rfl⟩ dM_table_6 rfl rfl (Nat.le_of_ble_eq_true rfl) ?_
  refine v_if_eq (pc := 9) (tgt := 32) dM_table_9 rfl hf (fun hf => ?_) (fun hf => ?_)
  · refine v_ldc (pc := 32) dM_table_32 kiM_90 ?_
    exact v_iret (pc := 34) dM_table_34 (by decide) (by decide) hf
  refine v_iload_n (i := 2) (pc := 12) dM_table_12 rfl rfl ?_
  obtain ⟨h4, i5, e17, hf⟩ := bndp hf
  refine v_S1 (pc := 13) (As := [.int i_2]) (rest := []) lsM_114 (sM_isSheet e17) ⟨Nat.le_of_ble_eq_true rfl, Nat.le_of_ble_eq_true rfl, Nat.le_of_ble_eq_true rfl, Nat.le_of_ble_eq_true rfl⟩ dM_table_13 rfl rfl (Nat.le_of_ble_eq_true rfl) ?_
  refine v_if_eq (pc := 16) (tgt := 32) dM_table_16 rfl hf (fun hf => ?_) (fun hf => ?_)
  · refine v_ldc (pc := 32) dM_table_32 kiM_90 ?_
    exact v_iret (pc := 34) dM_table_34 (by decide) (by decide) hf
  refine v_iload (pc := 19) dM_table_19 rfl ?_
  refine v_i2l (pc := 21) dM_table_21 ?_
  refine v_lconst (pc := 22) (1:Int64) dM_table_22 rfl ?_
  refine v_ldc2 (pc := 23) dM_table_23 klM_132 ?_
  obtain ⟨h6, i7, e16, hf⟩ := bndp hf
  refine v_S1 (pc := 26) (As := [.long i_4.toInt64, .long (1:Int64), .long (4:Int64)]) (rest := []) lsM_71 (sM_in e16) ⟨Nat.le_of_ble_eq_true rfl, Nat.le_of_ble_eq_true rfl, Nat.le_of_ble_eq_true rfl, Nat.le_of_ble_eq_true rfl⟩ dM_table_26 rfl rfl (Nat.le_of_ble_eq_true rfl) ?_
  refine v_if_ne (pc := 29) (tgt := 35) dM_table_29 rfl hf (fun hf => ?_) (fun hf => ?_)
  · refine v_ldc (pc := 32) dM_table_32 kiM_90 ?_
    exact v_iret (pc := 34) dM_table_34 (by decide) (by decide) hf
  refine v_aload_n (i := 0) (pc := 35) dM_table_35 rfl rfl ?_
  refine v_getR (pc := 36) fgM_27 dM_table_36 hf (fun a8 hf => ?_)
  refine v_iload_n (i := 2) (pc := 39) dM_table_39 rfl rfl ?_
  refine v_iald (pc := 40) dM_table_40 hf (fun i9 hf => ?_)
  refine v_if_ge (pc := 41) (tgt := 50) dM_table_41 rfl hf (fun hf => ?_) (fun hf => ?_)
  rotate_left
  · refine v_aload_n (i := 0) (pc := 44) dM_table_44 rfl rfl ?_
    refine v_iconst (pc := 45) (1:Int32) dM_table_45 rfl ?_
    obtain ⟨u15, cu15, hf⟩ := bnd hf
    obtain ⟨h12, i13, e14, hf⟩ := bndp hf
    refine v_M1 (pc := 46) (As := [.int (1:Int32)]) (rest := []) lmM_119 cu15 (sM_found e14) ⟨Nat.le_of_ble_eq_true rfl, Nat.le_of_ble_eq_true rfl, Nat.le_of_ble_eq_true rfl, Nat.le_of_ble_eq_true rfl⟩ dM_table_46 rfl rfl (Nat.le_of_ble_eq_true rfl) ?_
    exact v_iret (pc := 49) dM_table_49 (by decide) (by decide) hf
  refine v_iload (pc := 50) dM_table_50 rfl ?_
  refine v_iload (pc := 52) dM_table_52 rfl ?_
  refine v_imul (pc := 54) dM_table_54 ?_
  refine v_iload (pc := 55) dM_table_55 rfl ?_
  refine v_iadd (pc := 57) dM_table_57 ?_
  refine v_istore (pc := 58) (ls' := [some (.ref a_0), some (.int i_1), some (.int i_2), some (.int i_3), some (.int i_4), some (.int ((i_4 * i_4) + i_4)), none, none, none]) dM_table_58 (by decide) rfl ?_
  refine v_iload_n (i := 3) (pc := 60) dM_table_60 rfl rfl ?_
  refine v_if_lt (pc := 61) (tgt := 83) dM_table_61 rfl hf (fun hf => ?_) (fun hf => ?_)
  · refine v_wk (ls' := [some (.ref a_0), none, none, none, none, none, none, none, none]) ⟨rfl, trivial⟩ ?_
    exact tM_table_83 n h6 a_0 hf
  refine v_iload_n (i := 3) (pc := 64) dM_table_64 rfl rfl ?_
  refine v_i2l (pc := 65) dM_table_65 ?_
  refine v_iconst (pc := 66) (2:Int32) dM_table_66 rfl ?_
  refine v_iload (pc := 67) dM_table_67 rfl ?_
  refine v_imul (pc := 69) dM_table_69 ?_
  refine v_i2l (pc := 70) dM_table_70 ?_
  refine v_ladd (pc := 71) dM_table_71 ?_
  refine v_aload_n (i := 0) (pc := 72) dM_table_72 rfl rfl ?_
  refine v_getR (pc := 73) fgM_30 dM_table_73 hf (fun a10 hf => ?_)
  refine v_iload_n (i := 2) (pc := 76) dM_table_76 rfl rfl ?_
  refine v_iald (pc := 77) dM_table_77 hf (fun i11 hf => ?_)
  refine v_i2l (pc := 78) dM_table_78 ?_
  refine v_lcmp_le (pc := 79) (tgt := 89) dM_table_79 dM_table_80 rfl hf (fun hf => ?_) (fun hf => ?_)
  rotate_left
  · refine v_wk (ls' := [some (.ref a_0), none, none, none, none, none, none, none, none]) ⟨rfl, trivial⟩ ?_
    exact tM_table_83 n h6 a_0 hf
  refine v_iconst (pc := 89) (0:Int32) dM_table_89 rfl ?_
  refine v_istore (pc := 90) (ls' := [some (.ref a_0), some (.int i_1), some (.int i_2), some (.int i_3), some (.int i_4), some (.int ((i_4 * i_4) + i_4)), some (.int (0:Int32)), none, none]) dM_table_90 (by decide) rfl ?_
  refine v_wk (ls' := [some (.ref a_0), some (.int i_1), some (.int i_2), some (.int i_3), some (.int i_4), some (.int ((i_4 * i_4) + i_4)), some (.int (0:Int32)), none, none]) ⟨rfl, rfl, rfl, rfl, rfl, rfl, rfl, trivial⟩ ?_
  exact tM_table_92 n h6 a_0 i_1 i_2 i_3 i_4 ((i_4 * i_4) + i_4) (0:Int32) hf

abbrev rmM_behind : Room := { frames := 2, cells := 0, slots := 0, locals := 53 }
def fM_behind_47 (n : Nat) (h : MH) (x0 : Nat) : Option (MH × Int32) := ((chk h x0 12).bind fun _ => (bnd2 (fM_found h x0 (1:Int32)) fun h1 i2 => (some (h1, i2))))
set_option maxRecDepth 20000 in
set_option maxHeartbeats 4000000 in
theorem tM_behind_47 {g : Gh} {h' : MH} {r' : Int32} (n : Nat) (h : MH) (x0 : Nat) (hf : fM_behind_47 n h x0 = some (h', r')) : V g yM_behind cM_behind 10 (some .int) rmM_behind (ZQ g rmM_behind h' (some (.int r'))) 0 0 h 47 [some (.ref x0), none, none, none, none, none, none, none, none, none] [] := by
  unfold fM_behind_47 at hf
  refine v_aload_n (i := 0) (pc := 47) dM_behind_47 rfl rfl ?_
  refine v_iconst (pc := 48) (1:Int32) dM_behind_48 rfl ?_
  obtain ⟨u4, cu4, hf⟩ := bnd hf
  obtain ⟨h1, i2, e3, hf⟩ := bndp hf
  refine v_M1 (pc := 49) (As := [.int (1:Int32)]) (rest := []) lmM_119 cu4 (sM_found e3) ⟨Nat.le_of_ble_eq_true rfl, Nat.le_of_ble_eq_true rfl, Nat.le_of_ble_eq_true rfl, Nat.le_of_ble_eq_true rfl⟩ dM_behind_49 rfl rfl (Nat.le_of_ble_eq_true rfl) ?_
  exact v_iret (pc := 52) dM_behind_52 (by decide) (by decide) hf
def fM_behind_200 (k91 : (MH × Nat × Int32 × Int32 × Int32 × Int32 × Int32 × Int32) → Option (MH × Int32)) (k101 : (MH × Nat × Int32 × Int32 × Int32 × Int32 × Int32 × Int32 × Int32) → Option (MH × Int32)) (n : Nat) (h : MH) (x0 : Nat) (x1 : Int32) (x2 : Int32) (x3 : Int32) (x4 : Int32) (x5 : Int32) (x6 : Int32) (x7 : Int32) (x8 : Int64) : Option (MH × Int32) := ((gfR h x0 [12] 10).bind fun a1 => ((wrL h a1 (((640:Int32) + ((8:Int32) * x6)) + x7) x8).bind fun h2 => (k101 (h2, x0, x1, x2, x3, x4, x5, x6, (x7 + (1:Int32))))))
set_option maxRecDepth 20000 in
set_option maxHeartbeats 4000000 in
theorem tM_behind_200 {g : Gh} {h' : MH} {r' : Int32} {k91 : (MH × Nat × Int32 × Int32 × Int32 × Int32 × Int32 × Int32) → Option (MH × Int32)} {k101 : (MH × Nat × Int32 × Int32 × Int32 × Int32 × Int32 × Int32 × Int32) → Option (MH × Int32)} (hk91 : ∀ (h : MH) (x0 : Nat) (x1 : Int32) (x2 : Int32) (x3 : Int32) (x4 : Int32) (x5 : Int32) (x6 : Int32), k91 (h, x0, x1, x2, x3, x4, x5, x6) = some (h', r') → V g yM_behind cM_behind 10 (some .int) rmM_behind (ZQ g rmM_behind h' (some (.int r'))) 0 0 h 91 [some (.ref x0), some (.int x1), some (.int x2), some (.int x3), some (.int x4), some (.int x5), some (.int x6), none, none, none] []) (hk101 : ∀ (h : MH) (x0 : Nat) (x1 : Int32) (x2 : Int32) (x3 : Int32) (x4 : Int32) (x5 : Int32) (x6 : Int32) (x7 : Int32), k101 (h, x0, x1, x2, x3, x4, x5, x6, x7) = some (h', r') → V g yM_behind cM_behind 10 (some .int) rmM_behind (ZQ g rmM_behind h' (some (.int r'))) 0 0 h 101 [some (.ref x0), some (.int x1), some (.int x2), some (.int x3), some (.int x4), some (.int x5), some (.int x6), some (.int x7), none, none] []) (n : Nat) (h : MH) (x0 : Nat) (x1 : Int32) (x2 : Int32) (x3 : Int32) (x4 : Int32) (x5 : Int32) (x6 : Int32) (x7 : Int32) (x8 : Int64) (hf : fM_behind_200 k91 k101 n h x0 x1 x2 x3 x4 x5 x6 x7 x8 = some (h', r')) : V g yM_behind cM_behind 10 (some .int) rmM_behind (ZQ g rmM_behind h' (some (.int r'))) 0 0 h 200 [some (.ref x0), some (.int x1), some (.int x2), some (.int x3), some (.int x4), some (.int x5), some (.int x6), some (.int x7), some (.long x8), none] [] := by
  unfold fM_behind_200 at hf
  refine v_aload_n (i := 0) (pc := 200) dM_behind_200 rfl rfl ?_
  refine v_getR (pc := 201) fgM_40 dM_behind_201 hf (fun a1 hf => ?_)
  refine v_sipush (pc := 204) (640:Int32) dM_behind_204 rfl ?_
  refine v_bipush (pc := 207) (8:Int32) dM_behind_207 rfl ?_
  refine v_iload (pc := 209) dM_behind_209 rfl ?_
  refine v_imul (pc := 211) dM_behind_211 ?_
  refine v_iadd (pc := 212) dM_behind_212 ?_
  refine v_iload (pc := 213) dM_behind_213 rfl ?_
  refine v_iadd (pc := 215) dM_behind_215 ?_
  refine v_lload (pc := 216) dM_behind_216 rfl ?_
  refine v_last (pc := 218) dM_behind_218 hf (fun h2 hf => ?_)
  refine v_iinc (pc := 219) (v := (x7 + (1:Int32))) (ls' := [some (.ref x0), some (.int x1), some (.int x2), some (.int x3), some (.int x4), some (.int x5), some (.int x6), some (.int (x7 + (1:Int32))), some (.long x8), none]) dM_behind_219 rfl rfl (by decide) rfl ?_
  refine v_goto (pc := 222) (tgt := 101) dM_behind_222 rfl ?_
  refine v_wk (ls' := [some (.ref x0), some (.int x1), some (.int x2), some (.int x3), some (.int x4), some (.int x5), some (.int x6), some (.int (x7 + (1:Int32))), none, none]) ⟨rfl, rfl, rfl, rfl, rfl, rfl, rfl, rfl, trivial⟩ ?_
  exact hk101 h2 x0 x1 x2 x3 x4 x5 x6 (x7 + (1:Int32)) hf
def fM_behind_147 (k91 : (MH × Nat × Int32 × Int32 × Int32 × Int32 × Int32 × Int32) → Option (MH × Int32)) (k101 : (MH × Nat × Int32 × Int32 × Int32 × Int32 × Int32 × Int32 × Int32) → Option (MH × Int32)) (n : Nat) (h : MH) (s0 : Int64) (x0 : Nat) (x1 : Int32) (x2 : Int32) (x3 : Int32) (x4 : Int32) (x5 : Int32) (x6 : Int32) (x7 : Int32) : Option (MH × Int32) := (fM_behind_200 k91 k101 n h x0 x1 x2 x3 x4 x5 x6 x7 s0)
set_option maxRecDepth 20000 in
set_option maxHeartbeats 4000000 in
theorem tM_behind_147 {g : Gh} {h' : MH} {r' : Int32} {k91 : (MH × Nat × Int32 × Int32 × Int32 × Int32 × Int32 × Int32) → Option (MH × Int32)} {k101 : (MH × Nat × Int32 × Int32 × Int32 × Int32 × Int32 × Int32 × Int32) → Option (MH × Int32)} (hk91 : ∀ (h : MH) (x0 : Nat) (x1 : Int32) (x2 : Int32) (x3 : Int32) (x4 : Int32) (x5 : Int32) (x6 : Int32), k91 (h, x0, x1, x2, x3, x4, x5, x6) = some (h', r') → V g yM_behind cM_behind 10 (some .int) rmM_behind (ZQ g rmM_behind h' (some (.int r'))) 0 0 h 91 [some (.ref x0), some (.int x1), some (.int x2), some (.int x3), some (.int x4), some (.int x5), some (.int x6), none, none, none] []) (hk101 : ∀ (h : MH) (x0 : Nat) (x1 : Int32) (x2 : Int32) (x3 : Int32) (x4 : Int32) (x5 : Int32) (x6 : Int32) (x7 : Int32), k101 (h, x0, x1, x2, x3, x4, x5, x6, x7) = some (h', r') → V g yM_behind cM_behind 10 (some .int) rmM_behind (ZQ g rmM_behind h' (some (.int r'))) 0 0 h 101 [some (.ref x0), some (.int x1), some (.int x2), some (.int x3), some (.int x4), some (.int x5), some (.int x6), some (.int x7), none, none] []) (n : Nat) (h : MH) (s0 : Int64) (x0 : Nat) (x1 : Int32) (x2 : Int32) (x3 : Int32) (x4 : Int32) (x5 : Int32) (x6 : Int32) (x7 : Int32) (hf : fM_behind_147 k91 k101 n h s0 x0 x1 x2 x3 x4 x5 x6 x7 = some (h', r')) : V g yM_behind cM_behind 10 (some .int) rmM_behind (ZQ g rmM_behind h' (some (.int r'))) 0 0 h 147 [some (.ref x0), some (.int x1), some (.int x2), some (.int x3), some (.int x4), some (.int x5), some (.int x6), some (.int x7), none, none] [.long s0] := by
  unfold fM_behind_147 at hf
  refine v_lstore (pc := 147) (ls' := [some (.ref x0), some (.int x1), some (.int x2), some (.int x3), some (.int x4), some (.int x5), some (.int x6), some (.int x7), some (.long s0), none]) dM_behind_147 (by decide) rfl ?_
  refine v_goto (pc := 149) (tgt := 200) dM_behind_149 rfl ?_
  refine v_wk (ls' := [some (.ref x0), some (.int x1), some (.int x2), some (.int x3), some (.int x4), some (.int x5), some (.int x6), some (.int x7), some (.long s0), none]) ⟨rfl, rfl, rfl, rfl, rfl, rfl, rfl, rfl, rfl, trivial⟩ ?_
  exact tM_behind_200 hk91 hk101 n h x0 x1 x2 x3 x4 x5 x6 x7 s0 hf
def fM_behind_198 (k91 : (MH × Nat × Int32 × Int32 × Int32 × Int32 × Int32 × Int32) → Option (MH × Int32)) (k101 : (MH × Nat × Int32 × Int32 × Int32 × Int32 × Int32 × Int32 × Int32) → Option (MH × Int32)) (n : Nat) (h : MH) (s0 : Int64) (x0 : Nat) (x1 : Int32) (x2 : Int32) (x3 : Int32) (x4 : Int32) (x5 : Int32) (x6 : Int32) (x7 : Int32) : Option (MH × Int32) := (fM_behind_200 k91 k101 n h x0 x1 x2 x3 x4 x5 x6 x7 s0)
set_option maxRecDepth 20000 in
set_option maxHeartbeats 4000000 in
theorem tM_behind_198 {g : Gh} {h' : MH} {r' : Int32} {k91 : (MH × Nat × Int32 × Int32 × Int32 × Int32 × Int32 × Int32) → Option (MH × Int32)} {k101 : (MH × Nat × Int32 × Int32 × Int32 × Int32 × Int32 × Int32 × Int32) → Option (MH × Int32)} (hk91 : ∀ (h : MH) (x0 : Nat) (x1 : Int32) (x2 : Int32) (x3 : Int32) (x4 : Int32) (x5 : Int32) (x6 : Int32), k91 (h, x0, x1, x2, x3, x4, x5, x6) = some (h', r') → V g yM_behind cM_behind 10 (some .int) rmM_behind (ZQ g rmM_behind h' (some (.int r'))) 0 0 h 91 [some (.ref x0), some (.int x1), some (.int x2), some (.int x3), some (.int x4), some (.int x5), some (.int x6), none, none, none] []) (hk101 : ∀ (h : MH) (x0 : Nat) (x1 : Int32) (x2 : Int32) (x3 : Int32) (x4 : Int32) (x5 : Int32) (x6 : Int32) (x7 : Int32), k101 (h, x0, x1, x2, x3, x4, x5, x6, x7) = some (h', r') → V g yM_behind cM_behind 10 (some .int) rmM_behind (ZQ g rmM_behind h' (some (.int r'))) 0 0 h 101 [some (.ref x0), some (.int x1), some (.int x2), some (.int x3), some (.int x4), some (.int x5), some (.int x6), some (.int x7), none, none] []) (n : Nat) (h : MH) (s0 : Int64) (x0 : Nat) (x1 : Int32) (x2 : Int32) (x3 : Int32) (x4 : Int32) (x5 : Int32) (x6 : Int32) (x7 : Int32) (hf : fM_behind_198 k91 k101 n h s0 x0 x1 x2 x3 x4 x5 x6 x7 = some (h', r')) : V g yM_behind cM_behind 10 (some .int) rmM_behind (ZQ g rmM_behind h' (some (.int r'))) 0 0 h 198 [some (.ref x0), some (.int x1), some (.int x2), some (.int x3), some (.int x4), some (.int x5), some (.int x6), some (.int x7), none, none] [.long s0] := by
  unfold fM_behind_198 at hf
  refine v_lstore (pc := 198) (ls' := [some (.ref x0), some (.int x1), some (.int x2), some (.int x3), some (.int x4), some (.int x5), some (.int x6), some (.int x7), some (.long s0), none]) dM_behind_198 (by decide) rfl ?_
  refine v_wk (ls' := [some (.ref x0), some (.int x1), some (.int x2), some (.int x3), some (.int x4), some (.int x5), some (.int x6), some (.int x7), some (.long s0), none]) ⟨rfl, rfl, rfl, rfl, rfl, rfl, rfl, rfl, rfl, trivial⟩ ?_
  exact tM_behind_200 hk91 hk101 n h x0 x1 x2 x3 x4 x5 x6 x7 s0 hf
def fM_behind_271 (k91 : (MH × Nat × Int32 × Int32 × Int32 × Int32 × Int32 × Int32) → Option (MH × Int32)) (n : Nat) (h : MH) (s0 : Int64) (s1 : Int32) (s2 : Nat) (x0 : Nat) (x1 : Int32) (x2 : Int32) (x3 : Int32) (x4 : Int32) (x5 : Int32) (x6 : Int32) : Option (MH × Int32) := ((wrL h s2 s1 s0).bind fun h1 => (k91 (h1, x0, x1, x2, x3, x4, x5, (x6 + (1:Int32)))))
set_option maxRecDepth 20000 in
set_option maxHeartbeats 4000000 in
theorem tM_behind_271 {g : Gh} {h' : MH} {r' : Int32} {k91 : (MH × Nat × Int32 × Int32 × Int32 × Int32 × Int32 × Int32) → Option (MH × Int32)} (hk91 : ∀ (h : MH) (x0 : Nat) (x1 : Int32) (x2 : Int32) (x3 : Int32) (x4 : Int32) (x5 : Int32) (x6 : Int32), k91 (h, x0, x1, x2, x3, x4, x5, x6) = some (h', r') → V g yM_behind cM_behind 10 (some .int) rmM_behind (ZQ g rmM_behind h' (some (.int r'))) 0 0 h 91 [some (.ref x0), some (.int x1), some (.int x2), some (.int x3), some (.int x4), some (.int x5), some (.int x6), none, none, none] []) (n : Nat) (h : MH) (s0 : Int64) (s1 : Int32) (s2 : Nat) (x0 : Nat) (x1 : Int32) (x2 : Int32) (x3 : Int32) (x4 : Int32) (x5 : Int32) (x6 : Int32) (hf : fM_behind_271 k91 n h s0 s1 s2 x0 x1 x2 x3 x4 x5 x6 = some (h', r')) : V g yM_behind cM_behind 10 (some .int) rmM_behind (ZQ g rmM_behind h' (some (.int r'))) 0 0 h 271 [some (.ref x0), some (.int x1), some (.int x2), some (.int x3), some (.int x4), some (.int x5), some (.int x6), none, none, none] [.long s0, .int s1, .ref s2] := by
  unfold fM_behind_271 at hf
  refine v_last (pc := 271) dM_behind_271 hf (fun h1 hf => ?_)
  refine v_iinc (pc := 272) (v := (x6 + (1:Int32))) (ls' := [some (.ref x0), some (.int x1), some (.int x2), some (.int x3), some (.int x4), some (.int x5), some (.int (x6 + (1:Int32))), none, none, none]) dM_behind_272 rfl rfl (by decide) rfl ?_
  refine v_goto (pc := 275) (tgt := 91) dM_behind_275 rfl ?_
  refine v_wk (ls' := [some (.ref x0), some (.int x1), some (.int x2), some (.int x3), some (.int x4), some (.int x5), some (.int (x6 + (1:Int32))), none, none, none]) ⟨rfl, rfl, rfl, rfl, rfl, rfl, rfl, trivial⟩ ?_
  exact hk91 h1 x0 x1 x2 x3 x4 x5 (x6 + (1:Int32)) hf
def bM_behind_101 (k91 : (MH × Nat × Int32 × Int32 × Int32 × Int32 × Int32 × Int32) → Option (MH × Int32)) (n : Nat) (k101 : (MH × Nat × Int32 × Int32 × Int32 × Int32 × Int32 × Int32 × Int32) → Option (MH × Int32)) (h : MH) (x0 : Nat) (x1 : Int32) (x2 : Int32) (x3 : Int32) (x4 : Int32) (x5 : Int32) (x6 : Int32) (x7 : Int32) : Option (MH × Int32) := (if x5 ≤ x7 then ((gfR h x0 [12] 11).bind fun a1 => (if x4 ≤ x6 then ((gfR h x0 [12] 11).bind fun a2 => ((rdL h a2 ((((8:Int32) * x3) + x6) - x4)).bind fun j3 => (fM_behind_271 k91 n h j3 ((80:Int32) + x6) a1 x0 x1 x2 x3 x4 x5 x6))) else ((gfR h x0 [12] 11).bind fun a4 => ((rdL h a4 (((8:Int32) * x2) + x6)).bind fun j5 => (fM_behind_271 k91 n h j5 ((80:Int32) + x6) a1 x0 x1 x2 x3 x4 x5 x6))))) else (if x4 ≤ x6 then (if x4 ≤ x7 then ((gfR h x0 [12] 10).bind fun a6 => ((rdL h a6 (((((64:Int32) * x3) + ((8:Int32) * (x6 - x4))) + x7) - x4)).bind fun j7 => (fM_behind_198 k91 k101 n h j7 x0 x1 x2 x3 x4 x5 x6 x7))) else ((gfR h x0 [12] 11).bind fun a8 => ((rdL h a8 (((8:Int32) * x2) + x7)).bind fun j9 => (fM_behind_198 k91 k101 n h j9 x0 x1 x2 x3 x4 x5 x6 x7)))) else (if x4 ≤ x7 then (fM_behind_147 k91 k101 n h (0:Int64) x0 x1 x2 x3 x4 x5 x6 x7) else ((gfR h x0 [12] 10).bind fun a10 => ((rdL h a10 ((((64:Int32) * x2) + ((8:Int32) * x6)) + x7)).bind fun j11 => (fM_behind_147 k91 k101 n h j11 x0 x1 x2 x3 x4 x5 x6 x7))))))
def fM_behind_101 (k91 : (MH × Nat × Int32 × Int32 × Int32 × Int32 × Int32 × Int32) → Option (MH × Int32)) (n : Nat) (h : MH) (x0 : Nat) (x1 : Int32) (x2 : Int32) (x3 : Int32) (x4 : Int32) (x5 : Int32) (x6 : Int32) (x7 : Int32) : Option (MH × Int32) := lp (fun n k s => bM_behind_101 k91 n k s.1 s.2.1 s.2.2.1 s.2.2.2.1 s.2.2.2.2.1 s.2.2.2.2.2.1 s.2.2.2.2.2.2.1 s.2.2.2.2.2.2.2.1 s.2.2.2.2.2.2.2.2) n (h, x0, x1, x2, x3, x4, x5, x6, x7)
set_option maxRecDepth 20000 in
set_option maxHeartbeats 4000000 in
theorem tM_behind_101 {g : Gh} {h' : MH} {r' : Int32} {k91 : (MH × Nat × Int32 × Int32 × Int32 × Int32 × Int32 × Int32) → Option (MH × Int32)} (hk91 : ∀ (h : MH) (x0 : Nat) (x1 : Int32) (x2 : Int32) (x3 : Int32) (x4 : Int32) (x5 : Int32) (x6 : Int32), k91 (h, x0, x1, x2, x3, x4, x5, x6) = some (h', r') → V g yM_behind cM_behind 10 (some .int) rmM_behind (ZQ g rmM_behind h' (some (.int r'))) 0 0 h 91 [some (.ref x0), some (.int x1), some (.int x2), some (.int x3), some (.int x4), some (.int x5), some (.int x6), none, none, none] []) (n : Nat) (h : MH) (x0 : Nat) (x1 : Int32) (x2 : Int32) (x3 : Int32) (x4 : Int32) (x5 : Int32) (x6 : Int32) (x7 : Int32) (hf : fM_behind_101 k91 n h x0 x1 x2 x3 x4 x5 x6 x7 = some (h', r')) : V g yM_behind cM_behind 10 (some .int) rmM_behind (ZQ g rmM_behind h' (some (.int r'))) 0 0 h 101 [some (.ref x0), some (.int x1), some (.int x2), some (.int x3), some (.int x4), some (.int x5), some (.int x6), some (.int x7), none, none] [] := by
  unfold fM_behind_101 at hf
  refine lp_ind (P := fun s => V g yM_behind cM_behind 10 (some .int) rmM_behind (ZQ g rmM_behind h' (some (.int r'))) 0 0 s.1 101 [some (.ref s.2.1), some (.int s.2.2.1), some (.int s.2.2.2.1), some (.int s.2.2.2.2.1), some (.int s.2.2.2.2.2.1), some (.int s.2.2.2.2.2.2.1), some (.int s.2.2.2.2.2.2.2.1), some (.int s.2.2.2.2.2.2.2.2), none, none] []) (fun n k101 hk101 s hf => ?_) n (h, x0, x1, x2, x3, x4, x5, x6, x7) hf
  obtain ⟨h, x0, x1, x2, x3, x4, x5, x6, x7⟩ := s
  replace hk101 : ∀ (h : MH) (x0 : Nat) (x1 : Int32) (x2 : Int32) (x3 : Int32) (x4 : Int32) (x5 : Int32) (x6 : Int32) (x7 : Int32), k101 (h, x0, x1, x2, x3, x4, x5, x6, x7) = some (h', r') → V g yM_behind cM_behind 10 (some .int) rmM_behind (ZQ g rmM_behind h' (some (.int r'))) 0 0 h 101 [some (.ref x0), some (.int x1), some (.int x2), some (.int x3), some (.int x4), some (.int x5), some (.int x6), some (.int x7), none, none] [] := fun h x0 x1 x2 x3 x4 x5 x6 x7 => hk101 (h, x0, x1, x2, x3, x4, x5, x6, x7)
  replace hf : bM_behind_101 k91 n k101 h x0 x1 x2 x3 x4 x5 x6 x7 = some (h', r') := hf
  change V g yM_behind cM_behind 10 (some .int) rmM_behind (ZQ g rmM_behind h' (some (.int r'))) 0 0 h 101 [some (.ref x0), some (.int x1), some (.int x2), some (.int x3), some (.int x4), some (.int x5), some (.int x6), some (.int x7), none, none] []
  unfold bM_behind_101 at hf
  refine v_iload (pc := 101) dM_behind_101 rfl ?_
  refine v_iload (pc := 103) dM_behind_103 rfl ?_
  refine v_icmp_ge (pc := 105) (tgt := 225) dM_behind_105 rfl hf (fun hf => ?_) (fun hf => ?_)
  · refine v_aload_n (i := 0) (pc := 225) dM_behind_225 rfl rfl ?_
    refine v_getR (pc := 226) fgM_43 dM_behind_226 hf (fun a1 hf => ?_)
    refine v_bipush (pc := 229) (80:Int32) dM_behind_229 rfl ?_
    refine v_iload (pc := 231) dM_behind_231 rfl ?_
    refine v_iadd (pc := 233) dM_behind_233 ?_
    refine v_iload (pc := 234) dM_behind_234 rfl ?_
    refine v_iload (pc := 236) dM_behind_236 rfl ?_
    refine v_icmp_ge (pc := 238) (tgt := 256) dM_behind_238 rfl hf (fun hf => ?_) (fun hf => ?_)
    rotate_left
    · refine v_aload_n (i := 0) (pc := 241) dM_behind_241 rfl rfl ?_
      refine v_getR (pc := 242) fgM_43 dM_behind_242 hf (fun a4 hf => ?_)
      refine v_bipush (pc := 245) (8:Int32) dM_behind_245 rfl ?_
      refine v_iload_n (i := 2) (pc := 247) dM_behind_247 rfl rfl ?_
      refine v_imul (pc := 248) dM_behind_248 ?_
      refine v_iload (pc := 249) dM_behind_249 rfl ?_
      refine v_iadd (pc := 251) dM_behind_251 ?_
      refine v_lald (pc := 252) dM_behind_252 hf (fun j5 hf => ?_)
      refine v_goto (pc := 253) (tgt := 271) dM_behind_253 rfl ?_
      refine v_wk (ls' := [some (.ref x0), some (.int x1), some (.int x2), some (.int x3), some (.int x4), some (.int x5), some (.int x6), none, none, none]) ⟨rfl, rfl, rfl, rfl, rfl, rfl, rfl, trivial⟩ ?_
      exact tM_behind_271 hk91 n h j5 ((80:Int32) + x6) a1 x0 x1 x2 x3 x4 x5 x6 hf
    refine v_aload_n (i := 0) (pc := 256) dM_behind_256 rfl rfl ?_
    refine v_getR (pc := 257) fgM_43 dM_behind_257 hf (fun a2 hf => ?_)
    refine v_bipush (pc := 260) (8:Int32) dM_behind_260 rfl ?_
    refine v_iload_n (i := 3) (pc := 262) dM_behind_262 rfl rfl ?_
    refine v_imul (pc := 263) dM_behind_263 ?_
    refine v_iload (pc := 264) dM_behind_264 rfl ?_
    refine v_iadd (pc := 266) dM_behind_266 ?_
    refine v_iload (pc := 267) dM_behind_267 rfl ?_
    refine v_isub (pc := 269) dM_behind_269 ?_
    refine v_lald (pc := 270) dM_behind_270 hf (fun j3 hf => ?_)
    refine v_wk (ls' := [some (.ref x0), some (.int x1), some (.int x2), some (.int x3), some (.int x4), some (.int x5), some (.int x6), none, none, none]) ⟨rfl, rfl, rfl, rfl, rfl, rfl, rfl, trivial⟩ ?_
    exact tM_behind_271 hk91 n h j3 ((80:Int32) + x6) a1 x0 x1 x2 x3 x4 x5 x6 hf
  refine v_lconst (pc := 108) (0:Int64) dM_behind_108 rfl ?_
  refine v_lstore (pc := 109) (ls' := [some (.ref x0), some (.int x1), some (.int x2), some (.int x3), some (.int x4), some (.int x5), some (.int x6), some (.int x7), some (.long (0:Int64)), none]) dM_behind_109 (by decide) rfl ?_
  refine v_iload (pc := 111) dM_behind_111 rfl ?_
  refine v_iload (pc := 113) dM_behind_113 rfl ?_
  refine v_icmp_ge (pc := 115) (tgt := 152) dM_behind_115 rfl hf (fun hf => ?_) (fun hf => ?_)
  rotate_left
  · refine v_iload (pc := 118) dM_behind_118 rfl ?_
    refine v_iload (pc := 120) dM_behind_120 rfl ?_
    refine v_icmp_ge (pc := 122) (tgt := 146) dM_behind_122 rfl hf (fun hf => ?_) (fun hf => ?_)
    · refine v_lconst (pc := 146) (0:Int64) dM_behind_146 rfl ?_
      refine v_wk (ls' := [some (.ref x0), some (.int x1), some (.int x2), some (.int x3), some (.int x4), some (.int x5), some (.int x6), some (.int x7), none, none]) ⟨rfl, rfl, rfl, rfl, rfl, rfl, rfl, rfl, trivial⟩ ?_
      exact tM_behind_147 hk91 hk101 n h (0:Int64) x0 x1 x2 x3 x4 x5 x6 x7 hf
    refine v_aload_n (i := 0) (pc := 125) dM_behind_125 rfl rfl ?_
    refine v_getR (pc := 126) fgM_40 dM_behind_126 hf (fun a10 hf => ?_)
    refine v_bipush (pc := 129) (64:Int32) dM_behind_129 rfl ?_
    refine v_iload_n (i := 2) (pc := 131) dM_behind_131 rfl rfl ?_
    refine v_imul (pc := 132) dM_behind_132 ?_
    refine v_bipush (pc := 133) (8:Int32) dM_behind_133 rfl ?_
    refine v_iload (pc := 135) dM_behind_135 rfl ?_
    refine v_imul (pc := 137) dM_behind_137 ?_
    refine v_iadd (pc := 138) dM_behind_138 ?_
    refine v_iload (pc := 139) dM_behind_139 rfl ?_
    refine v_iadd (pc := 141) dM_behind_141 ?_
    refine v_lald (pc := 142) dM_behind_142 hf (fun j11 hf => ?_)
    refine v_goto (pc := 143) (tgt := 147) dM_behind_143 rfl ?_
    refine v_wk (ls' := [some (.ref x0), some (.int x1), some (.int x2), some (.int x3), some (.int x4), some (.int x5), some (.int x6), some (.int x7), none, none]) ⟨rfl, rfl, rfl, rfl, rfl, rfl, rfl, rfl, trivial⟩ ?_
    exact tM_behind_147 hk91 hk101 n h j11 x0 x1 x2 x3 x4 x5 x6 x7 hf
  refine v_iload (pc := 152) dM_behind_152 rfl ?_
  refine v_iload (pc := 154) dM_behind_154 rfl ?_
  refine v_icmp_ge (pc := 156) (tgt := 174) dM_behind_156 rfl hf (fun hf => ?_) (fun hf => ?_)
  rotate_left
  · refine v_aload_n (i := 0) (pc := 159) dM_behind_159 rfl rfl ?_
    refine v_getR (pc := 160) fgM_43 dM_behind_160 hf (fun a8 hf => ?_)
    refine v_bipush (pc := 163) (8:Int32) dM_behind_163 rfl ?_
    refine v_iload_n (i := 2) (pc := 165) dM_behind_165 rfl rfl ?_
    refine v_imul (pc := 166) dM_behind_166 ?_
    refine v_iload (pc := 167) dM_behind_167 rfl ?_
    refine v_iadd (pc := 169) dM_behind_169 ?_
    refine v_lald (pc := 170) dM_behind_170 hf (fun j9 hf => ?_)
    refine v_goto (pc := 171) (tgt := 198) dM_behind_171 rfl ?_
    refine v_wk (ls' := [some (.ref x0), some (.int x1), some (.int x2), some (.int x3), some (.int x4), some (.int x5), some (.int x6), some (.int x7), none, none]) ⟨rfl, rfl, rfl, rfl, rfl, rfl, rfl, rfl, trivial⟩ ?_
    exact tM_behind_198 hk91 hk101 n h j9 x0 x1 x2 x3 x4 x5 x6 x7 hf
  refine v_aload_n (i := 0) (pc := 174) dM_behind_174 rfl rfl ?_
  refine v_getR (pc := 175) fgM_40 dM_behind_175 hf (fun a6 hf => ?_)
  refine v_bipush (pc := 178) (64:Int32) dM_behind_178 rfl ?_
  refine v_iload_n (i := 3) (pc := 180) dM_behind_180 rfl rfl ?_
  refine v_imul (pc := 181) dM_behind_181 ?_
  refine v_bipush (pc := 182) (8:Int32) dM_behind_182 rfl ?_
  refine v_iload (pc := 184) dM_behind_184 rfl ?_
  refine v_iload (pc := 186) dM_behind_186 rfl ?_
  refine v_isub (pc := 188) dM_behind_188 ?_
  refine v_imul (pc := 189) dM_behind_189 ?_
  refine v_iadd (pc := 190) dM_behind_190 ?_
  refine v_iload (pc := 191) dM_behind_191 rfl ?_
  refine v_iadd (pc := 193) dM_behind_193 ?_
  refine v_iload (pc := 194) dM_behind_194 rfl ?_
  refine v_isub (pc := 196) dM_behind_196 ?_
  refine v_lald (pc := 197) dM_behind_197 hf (fun j7 hf => ?_)
  refine v_wk (ls' := [some (.ref x0), some (.int x1), some (.int x2), some (.int x3), some (.int x4), some (.int x5), some (.int x6), some (.int x7), none, none]) ⟨rfl, rfl, rfl, rfl, rfl, rfl, rfl, rfl, trivial⟩ ?_
  exact tM_behind_198 hk91 hk101 n h j7 x0 x1 x2 x3 x4 x5 x6 x7 hf
def bM_behind_91 (n : Nat) (k91 : (MH × Nat × Int32 × Int32 × Int32 × Int32 × Int32 × Int32) → Option (MH × Int32)) (h : MH) (x0 : Nat) (x1 : Int32) (x2 : Int32) (x3 : Int32) (x4 : Int32) (x5 : Int32) (x6 : Int32) : Option (MH × Int32) := (if x5 ≤ x6 then ((chk h x0 12).bind fun _ => (bnd2 (fM_lay n h x0 x1) fun h1 i2 => (some (h1, i2)))) else (fM_behind_101 k91 n h x0 x1 x2 x3 x4 x5 x6 (0:Int32)))
def fM_behind_91 (n : Nat) (h : MH) (x0 : Nat) (x1 : Int32) (x2 : Int32) (x3 : Int32) (x4 : Int32) (x5 : Int32) (x6 : Int32) : Option (MH × Int32) := lp (fun n k s => bM_behind_91 n k s.1 s.2.1 s.2.2.1 s.2.2.2.1 s.2.2.2.2.1 s.2.2.2.2.2.1 s.2.2.2.2.2.2.1 s.2.2.2.2.2.2.2) n (h, x0, x1, x2, x3, x4, x5, x6)
set_option maxRecDepth 20000 in
set_option maxHeartbeats 4000000 in
theorem tM_behind_91 {g : Gh} {h' : MH} {r' : Int32} (n : Nat) (h : MH) (x0 : Nat) (x1 : Int32) (x2 : Int32) (x3 : Int32) (x4 : Int32) (x5 : Int32) (x6 : Int32) (hf : fM_behind_91 n h x0 x1 x2 x3 x4 x5 x6 = some (h', r')) : V g yM_behind cM_behind 10 (some .int) rmM_behind (ZQ g rmM_behind h' (some (.int r'))) 0 0 h 91 [some (.ref x0), some (.int x1), some (.int x2), some (.int x3), some (.int x4), some (.int x5), some (.int x6), none, none, none] [] := by
  unfold fM_behind_91 at hf
  refine lp_ind (P := fun s => V g yM_behind cM_behind 10 (some .int) rmM_behind (ZQ g rmM_behind h' (some (.int r'))) 0 0 s.1 91 [some (.ref s.2.1), some (.int s.2.2.1), some (.int s.2.2.2.1), some (.int s.2.2.2.2.1), some (.int s.2.2.2.2.2.1), some (.int s.2.2.2.2.2.2.1), some (.int s.2.2.2.2.2.2.2), none, none, none] []) (fun n k91 hk91 s hf => ?_) n (h, x0, x1, x2, x3, x4, x5, x6) hf
  obtain ⟨h, x0, x1, x2, x3, x4, x5, x6⟩ := s
  replace hk91 : ∀ (h : MH) (x0 : Nat) (x1 : Int32) (x2 : Int32) (x3 : Int32) (x4 : Int32) (x5 : Int32) (x6 : Int32), k91 (h, x0, x1, x2, x3, x4, x5, x6) = some (h', r') → V g yM_behind cM_behind 10 (some .int) rmM_behind (ZQ g rmM_behind h' (some (.int r'))) 0 0 h 91 [some (.ref x0), some (.int x1), some (.int x2), some (.int x3), some (.int x4), some (.int x5), some (.int x6), none, none, none] [] := fun h x0 x1 x2 x3 x4 x5 x6 => hk91 (h, x0, x1, x2, x3, x4, x5, x6)
  replace hf : bM_behind_91 n k91 h x0 x1 x2 x3 x4 x5 x6 = some (h', r') := hf
  change V g yM_behind cM_behind 10 (some .int) rmM_behind (ZQ g rmM_behind h' (some (.int r'))) 0 0 h 91 [some (.ref x0), some (.int x1), some (.int x2), some (.int x3), some (.int x4), some (.int x5), some (.int x6), none, none, none] []
  unfold bM_behind_91 at hf
  refine v_iload (pc := 91) dM_behind_91 rfl ?_
  refine v_iload (pc := 93) dM_behind_93 rfl ?_
  refine v_icmp_ge (pc := 95) (tgt := 278) dM_behind_95 rfl hf (fun hf => ?_) (fun hf => ?_)
  rotate_left
  · refine v_iconst (pc := 98) (0:Int32) dM_behind_98 rfl ?_
    refine v_istore (pc := 99) (ls' := [some (.ref x0), some (.int x1), some (.int x2), some (.int x3), some (.int x4), some (.int x5), some (.int x6), some (.int (0:Int32)), none, none]) dM_behind_99 (by decide) rfl ?_
    refine v_wk (ls' := [some (.ref x0), some (.int x1), some (.int x2), some (.int x3), some (.int x4), some (.int x5), some (.int x6), some (.int (0:Int32)), none, none]) ⟨rfl, rfl, rfl, rfl, rfl, rfl, rfl, rfl, trivial⟩ ?_
    exact tM_behind_101 hk91 n h x0 x1 x2 x3 x4 x5 x6 (0:Int32) hf
  refine v_aload_n (i := 0) (pc := 278) dM_behind_278 rfl rfl ?_
  refine v_iload_n (i := 1) (pc := 279) dM_behind_279 rfl rfl ?_
  obtain ⟨u4, cu4, hf⟩ := bnd hf
  obtain ⟨h1, i2, e3, hf⟩ := bndp hf
  refine v_M1 (pc := 280) (As := [.int x1]) (rest := []) lmM_145 cu4 (sM_lay e3) ⟨Nat.le_of_ble_eq_true rfl, Nat.le_of_ble_eq_true rfl, Nat.le_of_ble_eq_true rfl, Nat.le_of_ble_eq_true rfl⟩ dM_behind_280 rfl rfl (Nat.le_of_ble_eq_true rfl) ?_
  exact v_iret (pc := 283) dM_behind_283 (by decide) (by decide) hf
def fM_behind (n : Nat) (h : MH) (a_0 : Nat) (i_1 : Int32) (i_2 : Int32) (i_3 : Int32) : Option (MH × Int32) := ((pf h a_0 [12] 0 (.int (0:Int32))).bind fun h1 => (bnd2 (fM_isPlace h1 i_1) fun h2 i3 => (if i3 = (0:Int32) then (some (h2, (-1000001:Int32))) else (bnd2 (fM_isPlace h2 i_2) fun h4 i5 => (if i5 = (0:Int32) then (some (h4, (-1000001:Int32))) else (bnd2 (fM_isPlace h4 i_3) fun h6 i7 => (if i7 = (0:Int32) then (some (h6, (-1000001:Int32))) else ((gfR h6 a_0 [12] 9).bind fun a8 => ((rdI h6 a8 i_2).bind fun i9 => (if i9 = (0:Int32) then (fM_behind_47 n h6 a_0) else ((gfR h6 a_0 [12] 9).bind fun a10 => ((rdI h6 a10 i_3).bind fun i11 => (if i11 = (0:Int32) then (fM_behind_47 n h6 a_0) else ((gfR h6 a_0 [12] 9).bind fun a12 => ((rdI h6 a12 i_2).bind fun i13 => ((gfR h6 a_0 [12] 9).bind fun a14 => ((rdI h6 a14 i_3).bind fun i15 => (if (i13 + i15) ≤ (8:Int32) then ((chk h6 a_0 12).bind fun _ => ((fM_wipe n h6 a_0 (i13 + i15)).bind fun h16 => (fM_behind_91 n h16 a_0 i_1 i_2 i_3 i13 (i13 + i15) (0:Int32)))) else (some (h6, (-1000003:Int32)))))))))))))))))))))
set_option maxRecDepth 20000 in
set_option maxHeartbeats 4000000 in
theorem sM_behind {g : Gh} {h' : MH} {r' : Int32} {n : Nat} {h : MH} {a_0 : Nat} {i_1 : Int32} {i_2 : Int32} {i_3 : Int32} (hf : fM_behind n h a_0 i_1 i_2 i_3 = some (h', r')) : Sp g yM_behind cM_behind 10 (some .int) rmM_behind h [.ref a_0, .int i_1, .int i_2, .int i_3] h' (some (.int r')) := by
  refine sp_of (by decide) (Nat.le_of_ble_eq_true rfl) ?_
  change V g yM_behind cM_behind 10 (some .int) rmM_behind (ZQ g rmM_behind h' (some (.int r'))) 0 0 h 0 [some (.ref a_0), some (.int i_1), some (.int i_2), some (.int i_3), none, none, none, none, none, none] []
  unfold fM_behind at hf
  refine v_aload_n (i := 0) (pc := 0) dM_behind_0 rfl rfl ?_
  refine v_iconst (pc := 1) (0:Int32) dM_behind_1 rfl ?_
  refine v_put (pc := 2) fpM_1 (fun _ => ⟨rfl, rfl⟩) dM_behind_2 hf (fun h1 hf => ?_)
  refine v_iload_n (i := 1) (pc := 5) dM_behind_5 rfl rfl ?_
  obtain ⟨h2, i3, e21, hf⟩ := bndp hf
  refine v_S1 (pc := 6) (As := [.int i_1]) (rest := []) lsM_129 (sM_isPlace e21) ⟨Nat.le_of_ble_eq_true rfl, Nat.le_of_ble_eq_true rfl, Nat.le_of_ble_eq_true rfl, Nat.le_of_ble_eq_true rfl⟩ dM_behind_6 rfl rfl (Nat.le_of_ble_eq_true rfl) ?_
  refine v_if_eq (pc := 9) (tgt := 26) dM_behind_9 rfl hf (fun hf => ?_) (fun hf => ?_)
  · refine v_ldc (pc := 26) dM_behind_26 kiM_90 ?_
    exact v_iret (pc := 28) dM_behind_28 (by decide) (by decide) hf
  refine v_iload_n (i := 2) (pc := 12) dM_behind_12 rfl rfl ?_
  obtain ⟨h4, i5, e20, hf⟩ := bndp hf
  refine v_S1 (pc := 13) (As := [.int i_2]) (rest := []) lsM_129 (sM_isPlace e20) ⟨Nat.le_of_ble_eq_true rfl, Nat.le_of_ble_eq_true rfl, Nat.le_of_ble_eq_true rfl, Nat.le_of_ble_eq_true rfl⟩ dM_behind_13 rfl rfl (Nat.le_of_ble_eq_true rfl) ?_
  refine v_if_eq (pc := 16) (tgt := 26) dM_behind_16 rfl hf (fun hf => ?_) (fun hf => ?_)
  · refine v_ldc (pc := 26) dM_behind_26 kiM_90 ?_
    exact v_iret (pc := 28) dM_behind_28 (by decide) (by decide) hf
  refine v_iload_n (i := 3) (pc := 19) dM_behind_19 rfl rfl ?_
  obtain ⟨h6, i7, e19, hf⟩ := bndp hf
  refine v_S1 (pc := 20) (As := [.int i_3]) (rest := []) lsM_129 (sM_isPlace e19) ⟨Nat.le_of_ble_eq_true rfl, Nat.le_of_ble_eq_true rfl, Nat.le_of_ble_eq_true rfl, Nat.le_of_ble_eq_true rfl⟩ dM_behind_20 rfl rfl (Nat.le_of_ble_eq_true rfl) ?_
  refine v_if_ne (pc := 23) (tgt := 29) dM_behind_23 rfl hf (fun hf => ?_) (fun hf => ?_)
  · refine v_ldc (pc := 26) dM_behind_26 kiM_90 ?_
    exact v_iret (pc := 28) dM_behind_28 (by decide) (by decide) hf
  refine v_aload_n (i := 0) (pc := 29) dM_behind_29 rfl rfl ?_
  refine v_getR (pc := 30) fgM_37 dM_behind_30 hf (fun a8 hf => ?_)
  refine v_iload_n (i := 2) (pc := 33) dM_behind_33 rfl rfl ?_
  refine v_iald (pc := 34) dM_behind_34 hf (fun i9 hf => ?_)
  refine v_if_eq (pc := 35) (tgt := 47) dM_behind_35 rfl hf (fun hf => ?_) (fun hf => ?_)
  · refine v_wk (ls' := [some (.ref a_0), none, none, none, none, none, none, none, none, none]) ⟨rfl, trivial⟩ ?_
    exact tM_behind_47 n h6 a_0 hf
  refine v_aload_n (i := 0) (pc := 38) dM_behind_38 rfl rfl ?_
  refine v_getR (pc := 39) fgM_37 dM_behind_39 hf (fun a10 hf => ?_)
  refine v_iload_n (i := 3) (pc := 42) dM_behind_42 rfl rfl ?_
  refine v_iald (pc := 43) dM_behind_43 hf (fun i11 hf => ?_)
  refine v_if_ne (pc := 44) (tgt := 53) dM_behind_44 rfl hf (fun hf => ?_) (fun hf => ?_)
  · refine v_wk (ls' := [some (.ref a_0), none, none, none, none, none, none, none, none, none]) ⟨rfl, trivial⟩ ?_
    exact tM_behind_47 n h6 a_0 hf
  refine v_aload_n (i := 0) (pc := 53) dM_behind_53 rfl rfl ?_
  refine v_getR (pc := 54) fgM_37 dM_behind_54 hf (fun a12 hf => ?_)
  refine v_iload_n (i := 2) (pc := 57) dM_behind_57 rfl rfl ?_
  refine v_iald (pc := 58) dM_behind_58 hf (fun i13 hf => ?_)
  refine v_istore (pc := 59) (ls' := [some (.ref a_0), some (.int i_1), some (.int i_2), some (.int i_3), some (.int i13), none, none, none, none, none]) dM_behind_59 (by decide) rfl ?_
  refine v_iload (pc := 61) dM_behind_61 rfl ?_
  refine v_aload_n (i := 0) (pc := 63) dM_behind_63 rfl rfl ?_
  refine v_getR (pc := 64) fgM_37 dM_behind_64 hf (fun a14 hf => ?_)
  refine v_iload_n (i := 3) (pc := 67) dM_behind_67 rfl rfl ?_
  refine v_iald (pc := 68) dM_behind_68 hf (fun i15 hf => ?_)
  refine v_iadd (pc := 69) dM_behind_69 ?_
  refine v_istore (pc := 70) (ls' := [some (.ref a_0), some (.int i_1), some (.int i_2), some (.int i_3), some (.int i13), some (.int (i13 + i15)), none, none, none, none]) dM_behind_70 (by decide) rfl ?_
  refine v_iload (pc := 72) dM_behind_72 rfl ?_
  refine v_bipush (pc := 74) (8:Int32) dM_behind_74 rfl ?_
  refine v_icmp_le (pc := 76) (tgt := 82) dM_behind_76 rfl hf (fun hf => ?_) (fun hf => ?_)
  rotate_left
  · refine v_ldc (pc := 79) dM_behind_79 kiM_148 ?_
    exact v_iret (pc := 81) dM_behind_81 (by decide) (by decide) hf
  refine v_aload_n (i := 0) (pc := 82) dM_behind_82 rfl rfl ?_
  refine v_iload (pc := 83) dM_behind_83 rfl ?_
  obtain ⟨u18, cu18, hf⟩ := bnd hf
  obtain ⟨h16, e17, hf⟩ := bnd hf
  refine v_M0 (pc := 85) (As := [.int (i13 + i15)]) (rest := []) lmM_138 cu18 (sM_wipe e17) ⟨Nat.le_of_ble_eq_true rfl, Nat.le_of_ble_eq_true rfl, Nat.le_of_ble_eq_true rfl, Nat.le_of_ble_eq_true rfl⟩ dM_behind_85 rfl rfl (Nat.le_of_ble_eq_true rfl) ?_
  refine v_iconst (pc := 88) (0:Int32) dM_behind_88 rfl ?_
  refine v_istore (pc := 89) (ls' := [some (.ref a_0), some (.int i_1), some (.int i_2), some (.int i_3), some (.int i13), some (.int (i13 + i15)), some (.int (0:Int32)), none, none, none]) dM_behind_89 (by decide) rfl ?_
  refine v_wk (ls' := [some (.ref a_0), some (.int i_1), some (.int i_2), some (.int i_3), some (.int i13), some (.int (i13 + i15)), some (.int (0:Int32)), none, none, none]) ⟨rfl, rfl, rfl, rfl, rfl, rfl, rfl, trivial⟩ ?_
  exact tM_behind_91 n h16 a_0 i_1 i_2 i_3 i13 (i13 + i15) (0:Int32) hf
abbrev rmM_turn : Room := { frames := 2, cells := 0, slots := 0, locals := 53 }
def fM_turn_205 (k64 : (MH × Nat × Int32 × Int32 × Int32 × Int32 × Int32) → Option (MH × Int32)) (k74 : (MH × Nat × Int32 × Int32 × Int32 × Int32 × Int32 × Int32) → Option (MH × Int32)) (n : Nat) (h : MH) (s0 : Int64) (s1 : Int32) (s2 : Nat) (x0 : Nat) (x1 : Int32) (x2 : Int32) (x3 : Int32) (x4 : Int32) (x5 : Int32) (x6 : Int32) : Option (MH × Int32) := ((wrL h s2 s1 s0).bind fun h1 => (k74 (h1, x0, x1, x2, x3, x4, x5, (x6 + (1:Int32)))))
set_option maxRecDepth 20000 in
set_option maxHeartbeats 4000000 in
theorem tM_turn_205 {g : Gh} {h' : MH} {r' : Int32} {k64 : (MH × Nat × Int32 × Int32 × Int32 × Int32 × Int32) → Option (MH × Int32)} {k74 : (MH × Nat × Int32 × Int32 × Int32 × Int32 × Int32 × Int32) → Option (MH × Int32)} (hk64 : ∀ (h : MH) (x0 : Nat) (x1 : Int32) (x2 : Int32) (x3 : Int32) (x4 : Int32) (x5 : Int32), k64 (h, x0, x1, x2, x3, x4, x5) = some (h', r') → V g yM_turn cM_turn 7 (some .int) rmM_turn (ZQ g rmM_turn h' (some (.int r'))) 0 0 h 64 [some (.ref x0), some (.int x1), some (.int x2), some (.int x3), some (.int x4), some (.int x5), none] []) (hk74 : ∀ (h : MH) (x0 : Nat) (x1 : Int32) (x2 : Int32) (x3 : Int32) (x4 : Int32) (x5 : Int32) (x6 : Int32), k74 (h, x0, x1, x2, x3, x4, x5, x6) = some (h', r') → V g yM_turn cM_turn 7 (some .int) rmM_turn (ZQ g rmM_turn h' (some (.int r'))) 0 0 h 74 [some (.ref x0), some (.int x1), some (.int x2), some (.int x3), some (.int x4), some (.int x5), some (.int x6)] []) (n : Nat) (h : MH) (s0 : Int64) (s1 : Int32) (s2 : Nat) (x0 : Nat) (x1 : Int32) (x2 : Int32) (x3 : Int32) (x4 : Int32) (x5 : Int32) (x6 : Int32) (hf : fM_turn_205 k64 k74 n h s0 s1 s2 x0 x1 x2 x3 x4 x5 x6 = some (h', r')) : V g yM_turn cM_turn 7 (some .int) rmM_turn (ZQ g rmM_turn h' (some (.int r'))) 0 0 h 205 [some (.ref x0), some (.int x1), some (.int x2), some (.int x3), some (.int x4), some (.int x5), some (.int x6)] [.long s0, .int s1, .ref s2] := by
  unfold fM_turn_205 at hf
  refine v_last (pc := 205) dM_turn_205 hf (fun h1 hf => ?_)
  refine v_iinc (pc := 206) (v := (x6 + (1:Int32))) (ls' := [some (.ref x0), some (.int x1), some (.int x2), some (.int x3), some (.int x4), some (.int x5), some (.int (x6 + (1:Int32)))]) dM_turn_206 rfl rfl (by decide) rfl ?_
  refine v_goto (pc := 209) (tgt := 74) dM_turn_209 rfl ?_
  refine v_wk (ls' := [some (.ref x0), some (.int x1), some (.int x2), some (.int x3), some (.int x4), some (.int x5), some (.int (x6 + (1:Int32)))]) ⟨rfl, rfl, rfl, rfl, rfl, rfl, rfl, trivial⟩ ?_
  exact hk74 h1 x0 x1 x2 x3 x4 x5 (x6 + (1:Int32)) hf
def fM_turn_269 (k64 : (MH × Nat × Int32 × Int32 × Int32 × Int32 × Int32) → Option (MH × Int32)) (n : Nat) (h : MH) (s0 : Int64) (s1 : Int32) (s2 : Nat) (x0 : Nat) (x1 : Int32) (x2 : Int32) (x3 : Int32) (x4 : Int32) (x5 : Int32) : Option (MH × Int32) := ((wrL h s2 s1 s0).bind fun h1 => (k64 (h1, x0, x1, x2, x3, x4, (x5 + (1:Int32)))))
set_option maxRecDepth 20000 in
set_option maxHeartbeats 4000000 in
theorem tM_turn_269 {g : Gh} {h' : MH} {r' : Int32} {k64 : (MH × Nat × Int32 × Int32 × Int32 × Int32 × Int32) → Option (MH × Int32)} (hk64 : ∀ (h : MH) (x0 : Nat) (x1 : Int32) (x2 : Int32) (x3 : Int32) (x4 : Int32) (x5 : Int32), k64 (h, x0, x1, x2, x3, x4, x5) = some (h', r') → V g yM_turn cM_turn 7 (some .int) rmM_turn (ZQ g rmM_turn h' (some (.int r'))) 0 0 h 64 [some (.ref x0), some (.int x1), some (.int x2), some (.int x3), some (.int x4), some (.int x5), none] []) (n : Nat) (h : MH) (s0 : Int64) (s1 : Int32) (s2 : Nat) (x0 : Nat) (x1 : Int32) (x2 : Int32) (x3 : Int32) (x4 : Int32) (x5 : Int32) (hf : fM_turn_269 k64 n h s0 s1 s2 x0 x1 x2 x3 x4 x5 = some (h', r')) : V g yM_turn cM_turn 7 (some .int) rmM_turn (ZQ g rmM_turn h' (some (.int r'))) 0 0 h 269 [some (.ref x0), some (.int x1), some (.int x2), some (.int x3), some (.int x4), some (.int x5), none] [.long s0, .int s1, .ref s2] := by
  unfold fM_turn_269 at hf
  refine v_last (pc := 269) dM_turn_269 hf (fun h1 hf => ?_)
  refine v_iinc (pc := 270) (v := (x5 + (1:Int32))) (ls' := [some (.ref x0), some (.int x1), some (.int x2), some (.int x3), some (.int x4), some (.int (x5 + (1:Int32))), none]) dM_turn_270 rfl rfl (by decide) rfl ?_
  refine v_goto (pc := 273) (tgt := 64) dM_turn_273 rfl ?_
  refine v_wk (ls' := [some (.ref x0), some (.int x1), some (.int x2), some (.int x3), some (.int x4), some (.int (x5 + (1:Int32))), none]) ⟨rfl, rfl, rfl, rfl, rfl, rfl, trivial⟩ ?_
  exact hk64 h1 x0 x1 x2 x3 x4 (x5 + (1:Int32)) hf
def bM_turn_74 (k64 : (MH × Nat × Int32 × Int32 × Int32 × Int32 × Int32) → Option (MH × Int32)) (n : Nat) (k74 : (MH × Nat × Int32 × Int32 × Int32 × Int32 × Int32 × Int32) → Option (MH × Int32)) (h : MH) (x0 : Nat) (x1 : Int32) (x2 : Int32) (x3 : Int32) (x4 : Int32) (x5 : Int32) (x6 : Int32) : Option (MH × Int32) := (if x4 ≤ x6 then ((gfR h x0 [12] 11).bind fun a1 => (if x3 = (0:Int32) then ((gfI h x0 [12] 2).bind fun i4 => ((gfR h x0 [12] 11).bind fun a5 => ((rdL h a5 (((8:Int32) * x2) + x5)).bind fun j6 => ((gfI h x0 [12] 2).bind fun i7 => (nzL i7.toInt64 (fM_turn_269 k64 n h (lrm (i4.toInt64 - j6) i7.toInt64) ((80:Int32) + x5) a1 x0 x1 x2 x3 x4 x5)))))) else ((gfR h x0 [12] 11).bind fun a2 => ((rdL h a2 (((((8:Int32) * x2) + x4) - (1:Int32)) - x5)).bind fun j3 => (fM_turn_269 k64 n h j3 ((80:Int32) + x5) a1 x0 x1 x2 x3 x4 x5))))) else ((gfR h x0 [12] 10).bind fun a9 => (if x3 = (0:Int32) then ((gfR h x0 [12] 10).bind fun a17 => ((rdL h a17 ((((64:Int32) * x2) + ((8:Int32) * x6)) + x5)).bind fun j18 => ((gfI h x0 [12] 2).bind fun i19 => ((gfR h x0 [12] 11).bind fun a20 => ((rdL h a20 (((8:Int32) * x2) + x5)).bind fun j21 => ((gfI h x0 [12] 2).bind fun i22 => (nzL i22.toInt64 (fM_turn_205 k64 k74 n h (lrm ((j18 + i19.toInt64) - j21) i22.toInt64) (((640:Int32) + ((8:Int32) * x6)) + x5) a9 x0 x1 x2 x3 x4 x5 x6)))))))) else ((gfR h x0 [12] 11).bind fun a10 => ((rdL h a10 (((((8:Int32) * x2) + x4) - (1:Int32)) - x5)).bind fun j11 => ((gfI h x0 [12] 2).bind fun i12 => ((gfR h x0 [12] 10).bind fun a13 => ((rdL h a13 ((((((64:Int32) * x2) + ((8:Int32) * ((x4 - (1:Int32)) - x6))) + x4) - (1:Int32)) - x5)).bind fun j14 => ((gfI h x0 [12] 2).bind fun i15 => (nzL i15.toInt64 (fM_turn_205 k64 k74 n h (lrm ((j11 + i12.toInt64) - j14) i15.toInt64) (((640:Int32) + ((8:Int32) * x6)) + x5) a9 x0 x1 x2 x3 x4 x5 x6)))))))))))
def fM_turn_74 (k64 : (MH × Nat × Int32 × Int32 × Int32 × Int32 × Int32) → Option (MH × Int32)) (n : Nat) (h : MH) (x0 : Nat) (x1 : Int32) (x2 : Int32) (x3 : Int32) (x4 : Int32) (x5 : Int32) (x6 : Int32) : Option (MH × Int32) := lp (fun n k s => bM_turn_74 k64 n k s.1 s.2.1 s.2.2.1 s.2.2.2.1 s.2.2.2.2.1 s.2.2.2.2.2.1 s.2.2.2.2.2.2.1 s.2.2.2.2.2.2.2) n (h, x0, x1, x2, x3, x4, x5, x6)
set_option maxRecDepth 20000 in
set_option maxHeartbeats 4000000 in
theorem tM_turn_74 {g : Gh} {h' : MH} {r' : Int32} {k64 : (MH × Nat × Int32 × Int32 × Int32 × Int32 × Int32) → Option (MH × Int32)} (hk64 : ∀ (h : MH) (x0 : Nat) (x1 : Int32) (x2 : Int32) (x3 : Int32) (x4 : Int32) (x5 : Int32), k64 (h, x0, x1, x2, x3, x4, x5) = some (h', r') → V g yM_turn cM_turn 7 (some .int) rmM_turn (ZQ g rmM_turn h' (some (.int r'))) 0 0 h 64 [some (.ref x0), some (.int x1), some (.int x2), some (.int x3), some (.int x4), some (.int x5), none] []) (n : Nat) (h : MH) (x0 : Nat) (x1 : Int32) (x2 : Int32) (x3 : Int32) (x4 : Int32) (x5 : Int32) (x6 : Int32) (hf : fM_turn_74 k64 n h x0 x1 x2 x3 x4 x5 x6 = some (h', r')) : V g yM_turn cM_turn 7 (some .int) rmM_turn (ZQ g rmM_turn h' (some (.int r'))) 0 0 h 74 [some (.ref x0), some (.int x1), some (.int x2), some (.int x3), some (.int x4), some (.int x5), some (.int x6)] [] := by
  unfold fM_turn_74 at hf
  refine lp_ind (P := fun s => V g yM_turn cM_turn 7 (some .int) rmM_turn (ZQ g rmM_turn h' (some (.int r'))) 0 0 s.1 74 [some (.ref s.2.1), some (.int s.2.2.1), some (.int s.2.2.2.1), some (.int s.2.2.2.2.1), some (.int s.2.2.2.2.2.1), some (.int s.2.2.2.2.2.2.1), some (.int s.2.2.2.2.2.2.2)] []) (fun n k74 hk74 s hf => ?_) n (h, x0, x1, x2, x3, x4, x5, x6) hf
  obtain ⟨h, x0, x1, x2, x3, x4, x5, x6⟩ := s
  replace hk74 : ∀ (h : MH) (x0 : Nat) (x1 : Int32) (x2 : Int32) (x3 : Int32) (x4 : Int32) (x5 : Int32) (x6 : Int32), k74 (h, x0, x1, x2, x3, x4, x5, x6) = some (h', r') → V g yM_turn cM_turn 7 (some .int) rmM_turn (ZQ g rmM_turn h' (some (.int r'))) 0 0 h 74 [some (.ref x0), some (.int x1), some (.int x2), some (.int x3), some (.int x4), some (.int x5), some (.int x6)] [] := fun h x0 x1 x2 x3 x4 x5 x6 => hk74 (h, x0, x1, x2, x3, x4, x5, x6)
  replace hf : bM_turn_74 k64 n k74 h x0 x1 x2 x3 x4 x5 x6 = some (h', r') := hf
  change V g yM_turn cM_turn 7 (some .int) rmM_turn (ZQ g rmM_turn h' (some (.int r'))) 0 0 h 74 [some (.ref x0), some (.int x1), some (.int x2), some (.int x3), some (.int x4), some (.int x5), some (.int x6)] []
  unfold bM_turn_74 at hf
  refine v_iload (pc := 74) dM_turn_74 rfl ?_
  refine v_iload (pc := 76) dM_turn_76 rfl ?_
  refine v_icmp_ge (pc := 78) (tgt := 212) dM_turn_78 rfl hf (fun hf => ?_) (fun hf => ?_)
  · refine v_aload_n (i := 0) (pc := 212) dM_turn_212 rfl rfl ?_
    refine v_getR (pc := 213) fgM_43 dM_turn_213 hf (fun a1 hf => ?_)
    refine v_bipush (pc := 216) (80:Int32) dM_turn_216 rfl ?_
    refine v_iload (pc := 218) dM_turn_218 rfl ?_
    refine v_iadd (pc := 220) dM_turn_220 ?_
    refine v_iload_n (i := 3) (pc := 221) dM_turn_221 rfl rfl ?_
    refine v_if_ne (pc := 222) (tgt := 252) dM_turn_222 rfl hf (fun hf => ?_) (fun hf => ?_)
    rotate_left
    · refine v_aload_n (i := 0) (pc := 252) dM_turn_252 rfl rfl ?_
      refine v_getR (pc := 253) fgM_43 dM_turn_253 hf (fun a2 hf => ?_)
      refine v_bipush (pc := 256) (8:Int32) dM_turn_256 rfl ?_
      refine v_iload_n (i := 2) (pc := 258) dM_turn_258 rfl rfl ?_
      refine v_imul (pc := 259) dM_turn_259 ?_
      refine v_iload (pc := 260) dM_turn_260 rfl ?_
      refine v_iadd (pc := 262) dM_turn_262 ?_
      refine v_iconst (pc := 263) (1:Int32) dM_turn_263 rfl ?_
      refine v_isub (pc := 264) dM_turn_264 ?_
      refine v_iload (pc := 265) dM_turn_265 rfl ?_
      refine v_isub (pc := 267) dM_turn_267 ?_
      refine v_lald (pc := 268) dM_turn_268 hf (fun j3 hf => ?_)
      refine v_wk (ls' := [some (.ref x0), some (.int x1), some (.int x2), some (.int x3), some (.int x4), some (.int x5), none]) ⟨rfl, rfl, rfl, rfl, rfl, rfl, trivial⟩ ?_
      exact tM_turn_269 hk64 n h j3 ((80:Int32) + x5) a1 x0 x1 x2 x3 x4 x5 hf
    refine v_aload_n (i := 0) (pc := 225) dM_turn_225 rfl rfl ?_
    refine v_getI (pc := 226) fgM_80 dM_turn_226 hf (fun i4 hf => ?_)
    refine v_i2l (pc := 229) dM_turn_229 ?_
    refine v_aload_n (i := 0) (pc := 230) dM_turn_230 rfl rfl ?_
    refine v_getR (pc := 231) fgM_43 dM_turn_231 hf (fun a5 hf => ?_)
    refine v_bipush (pc := 234) (8:Int32) dM_turn_234 rfl ?_
    refine v_iload_n (i := 2) (pc := 236) dM_turn_236 rfl rfl ?_
    refine v_imul (pc := 237) dM_turn_237 ?_
    refine v_iload (pc := 238) dM_turn_238 rfl ?_
    refine v_iadd (pc := 240) dM_turn_240 ?_
    refine v_lald (pc := 241) dM_turn_241 hf (fun j6 hf => ?_)
    refine v_lsub (pc := 242) dM_turn_242 ?_
    refine v_aload_n (i := 0) (pc := 243) dM_turn_243 rfl rfl ?_
    refine v_getI (pc := 244) fgM_80 dM_turn_244 hf (fun i7 hf => ?_)
    refine v_i2l (pc := 247) dM_turn_247 ?_
    obtain ⟨z8, hf⟩ := nzL_of hf
    refine v_lrem (pc := 248) dM_turn_248 z8 ?_
    refine v_goto (pc := 249) (tgt := 269) dM_turn_249 rfl ?_
    refine v_wk (ls' := [some (.ref x0), some (.int x1), some (.int x2), some (.int x3), some (.int x4), some (.int x5), none]) ⟨rfl, rfl, rfl, rfl, rfl, rfl, trivial⟩ ?_
    exact tM_turn_269 hk64 n h (lrm (i4.toInt64 - j6) i7.toInt64) ((80:Int32) + x5) a1 x0 x1 x2 x3 x4 x5 hf
  refine v_aload_n (i := 0) (pc := 81) dM_turn_81 rfl rfl ?_
  refine v_getR (pc := 82) fgM_40 dM_turn_82 hf (fun a9 hf => ?_)
  refine v_sipush (pc := 85) (640:Int32) dM_turn_85 rfl ?_
  refine v_bipush (pc := 88) (8:Int32) dM_turn_88 rfl ?_
  refine v_iload (pc := 90) dM_turn_90 rfl ?_
  refine v_imul (pc := 92) dM_turn_92 ?_
  refine v_iadd (pc := 93) dM_turn_93 ?_
  refine v_iload (pc := 94) dM_turn_94 rfl ?_
  refine v_iadd (pc := 96) dM_turn_96 ?_
  refine v_iload_n (i := 3) (pc := 97) dM_turn_97 rfl rfl ?_
  refine v_if_ne (pc := 98) (tgt := 147) dM_turn_98 rfl hf (fun hf => ?_) (fun hf => ?_)
  · refine v_aload_n (i := 0) (pc := 101) dM_turn_101 rfl rfl ?_
    refine v_getR (pc := 102) fgM_40 dM_turn_102 hf (fun a17 hf => ?_)
    refine v_bipush (pc := 105) (64:Int32) dM_turn_105 rfl ?_
    refine v_iload_n (i := 2) (pc := 107) dM_turn_107 rfl rfl ?_
    refine v_imul (pc := 108) dM_turn_108 ?_
    refine v_bipush (pc := 109) (8:Int32) dM_turn_109 rfl ?_
    refine v_iload (pc := 111) dM_turn_111 rfl ?_
    refine v_imul (pc := 113) dM_turn_113 ?_
    refine v_iadd (pc := 114) dM_turn_114 ?_
    refine v_iload (pc := 115) dM_turn_115 rfl ?_
    refine v_iadd (pc := 117) dM_turn_117 ?_
    refine v_lald (pc := 118) dM_turn_118 hf (fun j18 hf => ?_)
    refine v_aload_n (i := 0) (pc := 119) dM_turn_119 rfl rfl ?_
    refine v_getI (pc := 120) fgM_80 dM_turn_120 hf (fun i19 hf => ?_)
    refine v_i2l (pc := 123) dM_turn_123 ?_
    refine v_ladd (pc := 124) dM_turn_124 ?_
    refine v_aload_n (i := 0) (pc := 125) dM_turn_125 rfl rfl ?_
    refine v_getR (pc := 126) fgM_43 dM_turn_126 hf (fun a20 hf => ?_)
    refine v_bipush (pc := 129) (8:Int32) dM_turn_129 rfl ?_
    refine v_iload_n (i := 2) (pc := 131) dM_turn_131 rfl rfl ?_
    refine v_imul (pc := 132) dM_turn_132 ?_
    refine v_iload (pc := 133) dM_turn_133 rfl ?_
    refine v_iadd (pc := 135) dM_turn_135 ?_
    refine v_lald (pc := 136) dM_turn_136 hf (fun j21 hf => ?_)
    refine v_lsub (pc := 137) dM_turn_137 ?_
    refine v_aload_n (i := 0) (pc := 138) dM_turn_138 rfl rfl ?_
    refine v_getI (pc := 139) fgM_80 dM_turn_139 hf (fun i22 hf => ?_)
    refine v_i2l (pc := 142) dM_turn_142 ?_
    obtain ⟨z23, hf⟩ := nzL_of hf
    refine v_lrem (pc := 143) dM_turn_143 z23 ?_
    refine v_goto (pc := 144) (tgt := 205) dM_turn_144 rfl ?_
    refine v_wk (ls' := [some (.ref x0), some (.int x1), some (.int x2), some (.int x3), some (.int x4), some (.int x5), some (.int x6)]) ⟨rfl, rfl, rfl, rfl, rfl, rfl, rfl, trivial⟩ ?_
    exact tM_turn_205 hk64 hk74 n h (lrm ((j18 + i19.toInt64) - j21) i22.toInt64) (((640:Int32) + ((8:Int32) * x6)) + x5) a9 x0 x1 x2 x3 x4 x5 x6 hf
  refine v_aload_n (i := 0) (pc := 147) dM_turn_147 rfl rfl ?_
  refine v_getR (pc := 148) fgM_43 dM_turn_148 hf (fun a10 hf => ?_)
  refine v_bipush (pc := 151) (8:Int32) dM_turn_151 rfl ?_
  refine v_iload_n (i := 2) (pc := 153) dM_turn_153 rfl rfl ?_
  refine v_imul (pc := 154) dM_turn_154 ?_
  refine v_iload (pc := 155) dM_turn_155 rfl ?_
  refine v_iadd (pc := 157) dM_turn_157 ?_
  refine v_iconst (pc := 158) (1:Int32) dM_turn_158 rfl ?_
  refine v_isub (pc := 159) dM_turn_159 ?_
  refine v_iload (pc := 160) dM_turn_160 rfl ?_
  refine v_isub (pc := 162) dM_turn_162 ?_
  refine v_lald (pc := 163) dM_turn_163 hf (fun j11 hf => ?_)
  refine v_aload_n (i := 0) (pc := 164) dM_turn_164 rfl rfl ?_
  refine v_getI (pc := 165) fgM_80 dM_turn_165 hf (fun i12 hf => ?_)
  refine v_i2l (pc := 168) dM_turn_168 ?_
  refine v_ladd (pc := 169) dM_turn_169 ?_
  refine v_aload_n (i := 0) (pc := 170) dM_turn_170 rfl rfl ?_
  refine v_getR (pc := 171) fgM_40 dM_turn_171 hf (fun a13 hf => ?_)
  refine v_bipush (pc := 174) (64:Int32) dM_turn_174 rfl ?_
  refine v_iload_n (i := 2) (pc := 176) dM_turn_176 rfl rfl ?_
  refine v_imul (pc := 177) dM_turn_177 ?_
  refine v_bipush (pc := 178) (8:Int32) dM_turn_178 rfl ?_
  refine v_iload (pc := 180) dM_turn_180 rfl ?_
  refine v_iconst (pc := 182) (1:Int32) dM_turn_182 rfl ?_
  refine v_isub (pc := 183) dM_turn_183 ?_
  refine v_iload (pc := 184) dM_turn_184 rfl ?_
  refine v_isub (pc := 186) dM_turn_186 ?_
  refine v_imul (pc := 187) dM_turn_187 ?_
  refine v_iadd (pc := 188) dM_turn_188 ?_
  refine v_iload (pc := 189) dM_turn_189 rfl ?_
  refine v_iadd (pc := 191) dM_turn_191 ?_
  refine v_iconst (pc := 192) (1:Int32) dM_turn_192 rfl ?_
  refine v_isub (pc := 193) dM_turn_193 ?_
  refine v_iload (pc := 194) dM_turn_194 rfl ?_
  refine v_isub (pc := 196) dM_turn_196 ?_
  refine v_lald (pc := 197) dM_turn_197 hf (fun j14 hf => ?_)
  refine v_lsub (pc := 198) dM_turn_198 ?_
  refine v_aload_n (i := 0) (pc := 199) dM_turn_199 rfl rfl ?_
  refine v_getI (pc := 200) fgM_80 dM_turn_200 hf (fun i15 hf => ?_)
  refine v_i2l (pc := 203) dM_turn_203 ?_
  obtain ⟨z16, hf⟩ := nzL_of hf
  refine v_lrem (pc := 204) dM_turn_204 z16 ?_
  refine v_wk (ls' := [some (.ref x0), some (.int x1), some (.int x2), some (.int x3), some (.int x4), some (.int x5), some (.int x6)]) ⟨rfl, rfl, rfl, rfl, rfl, rfl, rfl, trivial⟩ ?_
  exact tM_turn_205 hk64 hk74 n h (lrm ((j11 + i12.toInt64) - j14) i15.toInt64) (((640:Int32) + ((8:Int32) * x6)) + x5) a9 x0 x1 x2 x3 x4 x5 x6 hf
def bM_turn_64 (n : Nat) (k64 : (MH × Nat × Int32 × Int32 × Int32 × Int32 × Int32) → Option (MH × Int32)) (h : MH) (x0 : Nat) (x1 : Int32) (x2 : Int32) (x3 : Int32) (x4 : Int32) (x5 : Int32) : Option (MH × Int32) := (if x4 ≤ x5 then ((chk h x0 12).bind fun _ => (bnd2 (fM_lay n h x0 x1) fun h1 i2 => (some (h1, i2)))) else (fM_turn_74 k64 n h x0 x1 x2 x3 x4 x5 (0:Int32)))
def fM_turn_64 (n : Nat) (h : MH) (x0 : Nat) (x1 : Int32) (x2 : Int32) (x3 : Int32) (x4 : Int32) (x5 : Int32) : Option (MH × Int32) := lp (fun n k s => bM_turn_64 n k s.1 s.2.1 s.2.2.1 s.2.2.2.1 s.2.2.2.2.1 s.2.2.2.2.2.1 s.2.2.2.2.2.2) n (h, x0, x1, x2, x3, x4, x5)
set_option maxRecDepth 20000 in
set_option maxHeartbeats 4000000 in
theorem tM_turn_64 {g : Gh} {h' : MH} {r' : Int32} (n : Nat) (h : MH) (x0 : Nat) (x1 : Int32) (x2 : Int32) (x3 : Int32) (x4 : Int32) (x5 : Int32) (hf : fM_turn_64 n h x0 x1 x2 x3 x4 x5 = some (h', r')) : V g yM_turn cM_turn 7 (some .int) rmM_turn (ZQ g rmM_turn h' (some (.int r'))) 0 0 h 64 [some (.ref x0), some (.int x1), some (.int x2), some (.int x3), some (.int x4), some (.int x5), none] [] := by
  unfold fM_turn_64 at hf
  refine lp_ind (P := fun s => V g yM_turn cM_turn 7 (some .int) rmM_turn (ZQ g rmM_turn h' (some (.int r'))) 0 0 s.1 64 [some (.ref s.2.1), some (.int s.2.2.1), some (.int s.2.2.2.1), some (.int s.2.2.2.2.1), some (.int s.2.2.2.2.2.1), some (.int s.2.2.2.2.2.2), none] []) (fun n k64 hk64 s hf => ?_) n (h, x0, x1, x2, x3, x4, x5) hf
  obtain ⟨h, x0, x1, x2, x3, x4, x5⟩ := s
  replace hk64 : ∀ (h : MH) (x0 : Nat) (x1 : Int32) (x2 : Int32) (x3 : Int32) (x4 : Int32) (x5 : Int32), k64 (h, x0, x1, x2, x3, x4, x5) = some (h', r') → V g yM_turn cM_turn 7 (some .int) rmM_turn (ZQ g rmM_turn h' (some (.int r'))) 0 0 h 64 [some (.ref x0), some (.int x1), some (.int x2), some (.int x3), some (.int x4), some (.int x5), none] [] := fun h x0 x1 x2 x3 x4 x5 => hk64 (h, x0, x1, x2, x3, x4, x5)
  replace hf : bM_turn_64 n k64 h x0 x1 x2 x3 x4 x5 = some (h', r') := hf
  change V g yM_turn cM_turn 7 (some .int) rmM_turn (ZQ g rmM_turn h' (some (.int r'))) 0 0 h 64 [some (.ref x0), some (.int x1), some (.int x2), some (.int x3), some (.int x4), some (.int x5), none] []
  unfold bM_turn_64 at hf
  refine v_iload (pc := 64) dM_turn_64 rfl ?_
  refine v_iload (pc := 66) dM_turn_66 rfl ?_
  refine v_icmp_ge (pc := 68) (tgt := 276) dM_turn_68 rfl hf (fun hf => ?_) (fun hf => ?_)
  rotate_left
  · refine v_iconst (pc := 71) (0:Int32) dM_turn_71 rfl ?_
    refine v_istore (pc := 72) (ls' := [some (.ref x0), some (.int x1), some (.int x2), some (.int x3), some (.int x4), some (.int x5), some (.int (0:Int32))]) dM_turn_72 (by decide) rfl ?_
    refine v_wk (ls' := [some (.ref x0), some (.int x1), some (.int x2), some (.int x3), some (.int x4), some (.int x5), some (.int (0:Int32))]) ⟨rfl, rfl, rfl, rfl, rfl, rfl, rfl, trivial⟩ ?_
    exact tM_turn_74 hk64 n h x0 x1 x2 x3 x4 x5 (0:Int32) hf
  refine v_aload_n (i := 0) (pc := 276) dM_turn_276 rfl rfl ?_
  refine v_iload_n (i := 1) (pc := 277) dM_turn_277 rfl rfl ?_
  obtain ⟨u4, cu4, hf⟩ := bnd hf
  obtain ⟨h1, i2, e3, hf⟩ := bndp hf
  refine v_M1 (pc := 278) (As := [.int x1]) (rest := []) lmM_145 cu4 (sM_lay e3) ⟨Nat.le_of_ble_eq_true rfl, Nat.le_of_ble_eq_true rfl, Nat.le_of_ble_eq_true rfl, Nat.le_of_ble_eq_true rfl⟩ dM_turn_278 rfl rfl (Nat.le_of_ble_eq_true rfl) ?_
  exact v_iret (pc := 281) dM_turn_281 (by decide) (by decide) hf
def fM_turn (n : Nat) (h : MH) (a_0 : Nat) (i_1 : Int32) (i_2 : Int32) (i_3 : Int32) : Option (MH × Int32) := ((pf h a_0 [12] 0 (.int (0:Int32))).bind fun h1 => (bnd2 (fM_isPlace h1 i_1) fun h2 i3 => (if i3 = (0:Int32) then (some (h2, (-1000001:Int32))) else (bnd2 (fM_isPlace h2 i_2) fun h4 i5 => (if i5 = (0:Int32) then (some (h4, (-1000001:Int32))) else (bnd2 (fM_in h4 i_3.toInt64 (0:Int64) (1:Int64)) fun h6 i7 => (if i7 = (0:Int32) then (some (h6, (-1000001:Int32))) else ((gfR h6 a_0 [12] 9).bind fun a8 => ((rdI h6 a8 i_2).bind fun i9 => (if i9 = (0:Int32) then ((chk h6 a_0 12).bind fun _ => (bnd2 (fM_found h6 a_0 (1:Int32)) fun h15 i16 => (some (h15, i16)))) else ((gfR h6 a_0 [12] 9).bind fun a10 => ((rdI h6 a10 i_2).bind fun i11 => ((chk h6 a_0 12).bind fun _ => ((fM_wipe n h6 a_0 i11).bind fun h12 => (fM_turn_64 n h12 a_0 i_1 i_2 i_3 i11 (0:Int32))))))))))))))))
set_option maxRecDepth 20000 in
set_option maxHeartbeats 4000000 in
theorem sM_turn {g : Gh} {h' : MH} {r' : Int32} {n : Nat} {h : MH} {a_0 : Nat} {i_1 : Int32} {i_2 : Int32} {i_3 : Int32} (hf : fM_turn n h a_0 i_1 i_2 i_3 = some (h', r')) : Sp g yM_turn cM_turn 7 (some .int) rmM_turn h [.ref a_0, .int i_1, .int i_2, .int i_3] h' (some (.int r')) := by
  refine sp_of (by decide) (Nat.le_of_ble_eq_true rfl) ?_
  change V g yM_turn cM_turn 7 (some .int) rmM_turn (ZQ g rmM_turn h' (some (.int r'))) 0 0 h 0 [some (.ref a_0), some (.int i_1), some (.int i_2), some (.int i_3), none, none, none] []
  unfold fM_turn at hf
  refine v_aload_n (i := 0) (pc := 0) dM_turn_0 rfl rfl ?_
  refine v_iconst (pc := 1) (0:Int32) dM_turn_1 rfl ?_
  refine v_put (pc := 2) fpM_1 (fun _ => ⟨rfl, rfl⟩) dM_turn_2 hf (fun h1 hf => ?_)
  refine v_iload_n (i := 1) (pc := 5) dM_turn_5 rfl rfl ?_
  obtain ⟨h2, i3, e21, hf⟩ := bndp hf
  refine v_S1 (pc := 6) (As := [.int i_1]) (rest := []) lsM_129 (sM_isPlace e21) ⟨Nat.le_of_ble_eq_true rfl, Nat.le_of_ble_eq_true rfl, Nat.le_of_ble_eq_true rfl, Nat.le_of_ble_eq_true rfl⟩ dM_turn_6 rfl rfl (Nat.le_of_ble_eq_true rfl) ?_
  refine v_if_eq (pc := 9) (tgt := 29) dM_turn_9 rfl hf (fun hf => ?_) (fun hf => ?_)
  · refine v_ldc (pc := 29) dM_turn_29 kiM_90 ?_
    exact v_iret (pc := 31) dM_turn_31 (by decide) (by decide) hf
  refine v_iload_n (i := 2) (pc := 12) dM_turn_12 rfl rfl ?_
  obtain ⟨h4, i5, e20, hf⟩ := bndp hf
  refine v_S1 (pc := 13) (As := [.int i_2]) (rest := []) lsM_129 (sM_isPlace e20) ⟨Nat.le_of_ble_eq_true rfl, Nat.le_of_ble_eq_true rfl, Nat.le_of_ble_eq_true rfl, Nat.le_of_ble_eq_true rfl⟩ dM_turn_13 rfl rfl (Nat.le_of_ble_eq_true rfl) ?_
  refine v_if_eq (pc := 16) (tgt := 29) dM_turn_16 rfl hf (fun hf => ?_) (fun hf => ?_)
  · refine v_ldc (pc := 29) dM_turn_29 kiM_90 ?_
    exact v_iret (pc := 31) dM_turn_31 (by decide) (by decide) hf
  refine v_iload_n (i := 3) (pc := 19) dM_turn_19 rfl rfl ?_
  refine v_i2l (pc := 20) dM_turn_20 ?_
  refine v_lconst (pc := 21) (0:Int64) dM_turn_21 rfl ?_
  refine v_lconst (pc := 22) (1:Int64) dM_turn_22 rfl ?_
  obtain ⟨h6, i7, e19, hf⟩ := bndp hf
  refine v_S1 (pc := 23) (As := [.long i_3.toInt64, .long (0:Int64), .long (1:Int64)]) (rest := []) lsM_71 (sM_in e19) ⟨Nat.le_of_ble_eq_true rfl, Nat.le_of_ble_eq_true rfl, Nat.le_of_ble_eq_true rfl, Nat.le_of_ble_eq_true rfl⟩ dM_turn_23 rfl rfl (Nat.le_of_ble_eq_true rfl) ?_
  refine v_if_ne (pc := 26) (tgt := 32) dM_turn_26 rfl hf (fun hf => ?_) (fun hf => ?_)
  · refine v_ldc (pc := 29) dM_turn_29 kiM_90 ?_
    exact v_iret (pc := 31) dM_turn_31 (by decide) (by decide) hf
  refine v_aload_n (i := 0) (pc := 32) dM_turn_32 rfl rfl ?_
  refine v_getR (pc := 33) fgM_37 dM_turn_33 hf (fun a8 hf => ?_)
  refine v_iload_n (i := 2) (pc := 36) dM_turn_36 rfl rfl ?_
  refine v_iald (pc := 37) dM_turn_37 hf (fun i9 hf => ?_)
  refine v_if_ne (pc := 38) (tgt := 47) dM_turn_38 rfl hf (fun hf => ?_) (fun hf => ?_)
  · refine v_aload_n (i := 0) (pc := 41) dM_turn_41 rfl rfl ?_
    refine v_iconst (pc := 42) (1:Int32) dM_turn_42 rfl ?_
    obtain ⟨u18, cu18, hf⟩ := bnd hf
    obtain ⟨h15, i16, e17, hf⟩ := bndp hf
    refine v_M1 (pc := 43) (As := [.int (1:Int32)]) (rest := []) lmM_119 cu18 (sM_found e17) ⟨Nat.le_of_ble_eq_true rfl, Nat.le_of_ble_eq_true rfl, Nat.le_of_ble_eq_true rfl, Nat.le_of_ble_eq_true rfl⟩ dM_turn_43 rfl rfl (Nat.le_of_ble_eq_true rfl) ?_
    exact v_iret (pc := 46) dM_turn_46 (by decide) (by decide) hf
  refine v_aload_n (i := 0) (pc := 47) dM_turn_47 rfl rfl ?_
  refine v_getR (pc := 48) fgM_37 dM_turn_48 hf (fun a10 hf => ?_)
  refine v_iload_n (i := 2) (pc := 51) dM_turn_51 rfl rfl ?_
  refine v_iald (pc := 52) dM_turn_52 hf (fun i11 hf => ?_)
  refine v_istore (pc := 53) (ls' := [some (.ref a_0), some (.int i_1), some (.int i_2), some (.int i_3), some (.int i11), none, none]) dM_turn_53 (by decide) rfl ?_
  refine v_aload_n (i := 0) (pc := 55) dM_turn_55 rfl rfl ?_
  refine v_iload (pc := 56) dM_turn_56 rfl ?_
  obtain ⟨u14, cu14, hf⟩ := bnd hf
  obtain ⟨h12, e13, hf⟩ := bnd hf
  refine v_M0 (pc := 58) (As := [.int i11]) (rest := []) lmM_138 cu14 (sM_wipe e13) ⟨Nat.le_of_ble_eq_true rfl, Nat.le_of_ble_eq_true rfl, Nat.le_of_ble_eq_true rfl, Nat.le_of_ble_eq_true rfl⟩ dM_turn_58 rfl rfl (Nat.le_of_ble_eq_true rfl) ?_
  refine v_iconst (pc := 61) (0:Int32) dM_turn_61 rfl ?_
  refine v_istore (pc := 62) (ls' := [some (.ref a_0), some (.int i_1), some (.int i_2), some (.int i_3), some (.int i11), some (.int (0:Int32)), none]) dM_turn_62 (by decide) rfl ?_
  refine v_wk (ls' := [some (.ref a_0), some (.int i_1), some (.int i_2), some (.int i_3), some (.int i11), some (.int (0:Int32)), none]) ⟨rfl, rfl, rfl, rfl, rfl, rfl, trivial⟩ ?_
  exact tM_turn_64 n h12 a_0 i_1 i_2 i_3 i11 (0:Int32) hf
abbrev rmM_scale : Room := { frames := 2, cells := 0, slots := 0, locals := 53 }
def bM_scale_114 (n : Nat) (k114 : (MH × Nat × Int32 × Int32 × Int32 × Int32) → Option (MH × Int32)) (h : MH) (x0 : Nat) (x1 : Int32) (x2 : Int32) (x3 : Int32) (x4 : Int32) : Option (MH × Int32) := (if (8:Int32) ≤ x4 then ((chk h x0 12).bind fun _ => (bnd2 (fM_lay n h x0 x1) fun h1 i2 => (some (h1, i2)))) else ((gfR h x0 [12] 11).bind fun a5 => ((gfR h x0 [12] 11).bind fun a6 => ((rdL h a6 (((8:Int32) * x2) + x4)).bind fun j7 => ((gfI h x0 [12] 2).bind fun i8 => (nzL i8.toInt64 ((wrL h a5 ((80:Int32) + x4) (lrm (j7 * x3.toInt64) i8.toInt64)).bind fun h9 => (k114 (h9, x0, x1, x2, x3, (x4 + (1:Int32)))))))))))
def fM_scale_114 (n : Nat) (h : MH) (x0 : Nat) (x1 : Int32) (x2 : Int32) (x3 : Int32) (x4 : Int32) : Option (MH × Int32) := lp (fun n k s => bM_scale_114 n k s.1 s.2.1 s.2.2.1 s.2.2.2.1 s.2.2.2.2.1 s.2.2.2.2.2) n (h, x0, x1, x2, x3, x4)
set_option maxRecDepth 20000 in
set_option maxHeartbeats 4000000 in
theorem tM_scale_114 {g : Gh} {h' : MH} {r' : Int32} (n : Nat) (h : MH) (x0 : Nat) (x1 : Int32) (x2 : Int32) (x3 : Int32) (x4 : Int32) (hf : fM_scale_114 n h x0 x1 x2 x3 x4 = some (h', r')) : V g yM_scale cM_scale 5 (some .int) rmM_scale (ZQ g rmM_scale h' (some (.int r'))) 0 0 h 114 [some (.ref x0), some (.int x1), some (.int x2), some (.int x3), some (.int x4)] [] := by
  unfold fM_scale_114 at hf
  refine lp_ind (P := fun s => V g yM_scale cM_scale 5 (some .int) rmM_scale (ZQ g rmM_scale h' (some (.int r'))) 0 0 s.1 114 [some (.ref s.2.1), some (.int s.2.2.1), some (.int s.2.2.2.1), some (.int s.2.2.2.2.1), some (.int s.2.2.2.2.2)] []) (fun n k114 hk114 s hf => ?_) n (h, x0, x1, x2, x3, x4) hf
  obtain ⟨h, x0, x1, x2, x3, x4⟩ := s
  replace hk114 : ∀ (h : MH) (x0 : Nat) (x1 : Int32) (x2 : Int32) (x3 : Int32) (x4 : Int32), k114 (h, x0, x1, x2, x3, x4) = some (h', r') → V g yM_scale cM_scale 5 (some .int) rmM_scale (ZQ g rmM_scale h' (some (.int r'))) 0 0 h 114 [some (.ref x0), some (.int x1), some (.int x2), some (.int x3), some (.int x4)] [] := fun h x0 x1 x2 x3 x4 => hk114 (h, x0, x1, x2, x3, x4)
  replace hf : bM_scale_114 n k114 h x0 x1 x2 x3 x4 = some (h', r') := hf
  change V g yM_scale cM_scale 5 (some .int) rmM_scale (ZQ g rmM_scale h' (some (.int r'))) 0 0 h 114 [some (.ref x0), some (.int x1), some (.int x2), some (.int x3), some (.int x4)] []
  unfold bM_scale_114 at hf
  refine v_iload (pc := 114) dM_scale_114 rfl ?_
  refine v_bipush (pc := 116) (8:Int32) dM_scale_116 rfl ?_
  refine v_icmp_ge (pc := 118) (tgt := 158) dM_scale_118 rfl hf (fun hf => ?_) (fun hf => ?_)
  · refine v_aload_n (i := 0) (pc := 158) dM_scale_158 rfl rfl ?_
    refine v_iload_n (i := 1) (pc := 159) dM_scale_159 rfl rfl ?_
    obtain ⟨u4, cu4, hf⟩ := bnd hf
    obtain ⟨h1, i2, e3, hf⟩ := bndp hf
    refine v_M1 (pc := 160) (As := [.int x1]) (rest := []) lmM_145 cu4 (sM_lay e3) ⟨Nat.le_of_ble_eq_true rfl, Nat.le_of_ble_eq_true rfl, Nat.le_of_ble_eq_true rfl, Nat.le_of_ble_eq_true rfl⟩ dM_scale_160 rfl rfl (Nat.le_of_ble_eq_true rfl) ?_
    exact v_iret (pc := 163) dM_scale_163 (by decide) (by decide) hf
  refine v_aload_n (i := 0) (pc := 121) dM_scale_121 rfl rfl ?_
  refine v_getR (pc := 122) fgM_43 dM_scale_122 hf (fun a5 hf => ?_)
  refine v_bipush (pc := 125) (80:Int32) dM_scale_125 rfl ?_
  refine v_iload (pc := 127) dM_scale_127 rfl ?_
  refine v_iadd (pc := 129) dM_scale_129 ?_
  refine v_aload_n (i := 0) (pc := 130) dM_scale_130 rfl rfl ?_
  refine v_getR (pc := 131) fgM_43 dM_scale_131 hf (fun a6 hf => ?_)
  refine v_bipush (pc := 134) (8:Int32) dM_scale_134 rfl ?_
  refine v_iload_n (i := 2) (pc := 136) dM_scale_136 rfl rfl ?_
  refine v_imul (pc := 137) dM_scale_137 ?_
  refine v_iload (pc := 138) dM_scale_138 rfl ?_
  refine v_iadd (pc := 140) dM_scale_140 ?_
  refine v_lald (pc := 141) dM_scale_141 hf (fun j7 hf => ?_)
  refine v_iload_n (i := 3) (pc := 142) dM_scale_142 rfl rfl ?_
  refine v_i2l (pc := 143) dM_scale_143 ?_
  refine v_lmul (pc := 144) dM_scale_144 ?_
  refine v_aload_n (i := 0) (pc := 145) dM_scale_145 rfl rfl ?_
  refine v_getI (pc := 146) fgM_80 dM_scale_146 hf (fun i8 hf => ?_)
  refine v_i2l (pc := 149) dM_scale_149 ?_
  obtain ⟨z10, hf⟩ := nzL_of hf
  refine v_lrem (pc := 150) dM_scale_150 z10 ?_
  refine v_last (pc := 151) dM_scale_151 hf (fun h9 hf => ?_)
  refine v_iinc (pc := 152) (v := (x4 + (1:Int32))) (ls' := [some (.ref x0), some (.int x1), some (.int x2), some (.int x3), some (.int (x4 + (1:Int32)))]) dM_scale_152 rfl rfl (by decide) rfl ?_
  refine v_goto (pc := 155) (tgt := 114) dM_scale_155 rfl ?_
  refine v_wk (ls' := [some (.ref x0), some (.int x1), some (.int x2), some (.int x3), some (.int (x4 + (1:Int32)))]) ⟨rfl, rfl, rfl, rfl, rfl, trivial⟩ ?_
  exact hk114 h9 x0 x1 x2 x3 (x4 + (1:Int32)) hf
def bM_scale_66 (n : Nat) (k66 : (MH × Nat × Int32 × Int32 × Int32 × Int32) → Option (MH × Int32)) (h : MH) (x0 : Nat) (x1 : Int32) (x2 : Int32) (x3 : Int32) (x4 : Int32) : Option (MH × Int32) := (if (64:Int32) ≤ x4 then (fM_scale_114 n h x0 x1 x2 x3 (0:Int32)) else ((gfR h x0 [12] 10).bind fun a1 => ((gfR h x0 [12] 10).bind fun a2 => ((rdL h a2 (((64:Int32) * x2) + x4)).bind fun j3 => ((gfI h x0 [12] 2).bind fun i4 => (nzL i4.toInt64 ((wrL h a1 ((640:Int32) + x4) (lrm (j3 * x3.toInt64) i4.toInt64)).bind fun h5 => (k66 (h5, x0, x1, x2, x3, (x4 + (1:Int32)))))))))))
def fM_scale_66 (n : Nat) (h : MH) (x0 : Nat) (x1 : Int32) (x2 : Int32) (x3 : Int32) (x4 : Int32) : Option (MH × Int32) := lp (fun n k s => bM_scale_66 n k s.1 s.2.1 s.2.2.1 s.2.2.2.1 s.2.2.2.2.1 s.2.2.2.2.2) n (h, x0, x1, x2, x3, x4)
set_option maxRecDepth 20000 in
set_option maxHeartbeats 4000000 in
theorem tM_scale_66 {g : Gh} {h' : MH} {r' : Int32} (n : Nat) (h : MH) (x0 : Nat) (x1 : Int32) (x2 : Int32) (x3 : Int32) (x4 : Int32) (hf : fM_scale_66 n h x0 x1 x2 x3 x4 = some (h', r')) : V g yM_scale cM_scale 5 (some .int) rmM_scale (ZQ g rmM_scale h' (some (.int r'))) 0 0 h 66 [some (.ref x0), some (.int x1), some (.int x2), some (.int x3), some (.int x4)] [] := by
  unfold fM_scale_66 at hf
  refine lp_ind (P := fun s => V g yM_scale cM_scale 5 (some .int) rmM_scale (ZQ g rmM_scale h' (some (.int r'))) 0 0 s.1 66 [some (.ref s.2.1), some (.int s.2.2.1), some (.int s.2.2.2.1), some (.int s.2.2.2.2.1), some (.int s.2.2.2.2.2)] []) (fun n k66 hk66 s hf => ?_) n (h, x0, x1, x2, x3, x4) hf
  obtain ⟨h, x0, x1, x2, x3, x4⟩ := s
  replace hk66 : ∀ (h : MH) (x0 : Nat) (x1 : Int32) (x2 : Int32) (x3 : Int32) (x4 : Int32), k66 (h, x0, x1, x2, x3, x4) = some (h', r') → V g yM_scale cM_scale 5 (some .int) rmM_scale (ZQ g rmM_scale h' (some (.int r'))) 0 0 h 66 [some (.ref x0), some (.int x1), some (.int x2), some (.int x3), some (.int x4)] [] := fun h x0 x1 x2 x3 x4 => hk66 (h, x0, x1, x2, x3, x4)
  replace hf : bM_scale_66 n k66 h x0 x1 x2 x3 x4 = some (h', r') := hf
  change V g yM_scale cM_scale 5 (some .int) rmM_scale (ZQ g rmM_scale h' (some (.int r'))) 0 0 h 66 [some (.ref x0), some (.int x1), some (.int x2), some (.int x3), some (.int x4)] []
  unfold bM_scale_66 at hf
  refine v_iload (pc := 66) dM_scale_66 rfl ?_
  refine v_bipush (pc := 68) (64:Int32) dM_scale_68 rfl ?_
  refine v_icmp_ge (pc := 70) (tgt := 111) dM_scale_70 rfl hf (fun hf => ?_) (fun hf => ?_)
  · refine v_iconst (pc := 111) (0:Int32) dM_scale_111 rfl ?_
    refine v_istore (pc := 112) (ls' := [some (.ref x0), some (.int x1), some (.int x2), some (.int x3), some (.int (0:Int32))]) dM_scale_112 (by decide) rfl ?_
    refine v_wk (ls' := [some (.ref x0), some (.int x1), some (.int x2), some (.int x3), some (.int (0:Int32))]) ⟨rfl, rfl, rfl, rfl, rfl, trivial⟩ ?_
    exact tM_scale_114 n h x0 x1 x2 x3 (0:Int32) hf
  refine v_aload_n (i := 0) (pc := 73) dM_scale_73 rfl rfl ?_
  refine v_getR (pc := 74) fgM_40 dM_scale_74 hf (fun a1 hf => ?_)
  refine v_sipush (pc := 77) (640:Int32) dM_scale_77 rfl ?_
  refine v_iload (pc := 80) dM_scale_80 rfl ?_
  refine v_iadd (pc := 82) dM_scale_82 ?_
  refine v_aload_n (i := 0) (pc := 83) dM_scale_83 rfl rfl ?_
  refine v_getR (pc := 84) fgM_40 dM_scale_84 hf (fun a2 hf => ?_)
  refine v_bipush (pc := 87) (64:Int32) dM_scale_87 rfl ?_
  refine v_iload_n (i := 2) (pc := 89) dM_scale_89 rfl rfl ?_
  refine v_imul (pc := 90) dM_scale_90 ?_
  refine v_iload (pc := 91) dM_scale_91 rfl ?_
  refine v_iadd (pc := 93) dM_scale_93 ?_
  refine v_lald (pc := 94) dM_scale_94 hf (fun j3 hf => ?_)
  refine v_iload_n (i := 3) (pc := 95) dM_scale_95 rfl rfl ?_
  refine v_i2l (pc := 96) dM_scale_96 ?_
  refine v_lmul (pc := 97) dM_scale_97 ?_
  refine v_aload_n (i := 0) (pc := 98) dM_scale_98 rfl rfl ?_
  refine v_getI (pc := 99) fgM_80 dM_scale_99 hf (fun i4 hf => ?_)
  refine v_i2l (pc := 102) dM_scale_102 ?_
  obtain ⟨z6, hf⟩ := nzL_of hf
  refine v_lrem (pc := 103) dM_scale_103 z6 ?_
  refine v_last (pc := 104) dM_scale_104 hf (fun h5 hf => ?_)
  refine v_iinc (pc := 105) (v := (x4 + (1:Int32))) (ls' := [some (.ref x0), some (.int x1), some (.int x2), some (.int x3), some (.int (x4 + (1:Int32)))]) dM_scale_105 rfl rfl (by decide) rfl ?_
  refine v_goto (pc := 108) (tgt := 66) dM_scale_108 rfl ?_
  refine v_wk (ls' := [some (.ref x0), some (.int x1), some (.int x2), some (.int x3), some (.int (x4 + (1:Int32)))]) ⟨rfl, rfl, rfl, rfl, rfl, trivial⟩ ?_
  exact hk66 h5 x0 x1 x2 x3 (x4 + (1:Int32)) hf
def fM_scale (n : Nat) (h : MH) (a_0 : Nat) (i_1 : Int32) (i_2 : Int32) (i_3 : Int32) : Option (MH × Int32) := ((pf h a_0 [12] 0 (.int (0:Int32))).bind fun h1 => (bnd2 (fM_isPlace h1 i_1) fun h2 i3 => (if i3 = (0:Int32) then (some (h2, (-1000001:Int32))) else (bnd2 (fM_isPlace h2 i_2) fun h4 i5 => (if i5 = (0:Int32) then (some (h4, (-1000001:Int32))) else ((gfI h4 a_0 [12] 2).bind fun i6 => (bnd2 (fM_in h4 i_3.toInt64 (0:Int64) (i6 - (1:Int32)).toInt64) fun h7 i8 => (if i8 = (0:Int32) then (some (h7, (-1000001:Int32))) else ((gfR h7 a_0 [12] 9).bind fun a9 => ((rdI h7 a9 i_2).bind fun i10 => (if i10 = (0:Int32) then ((chk h7 a_0 12).bind fun _ => (bnd2 (fM_found h7 a_0 (1:Int32)) fun h16 i17 => (some (h16, i17)))) else ((gfR h7 a_0 [12] 9).bind fun a11 => ((rdI h7 a11 i_2).bind fun i12 => ((chk h7 a_0 12).bind fun _ => ((fM_wipe n h7 a_0 i12).bind fun h13 => (fM_scale_66 n h13 a_0 i_1 i_2 i_3 (0:Int32)))))))))))))))))
set_option maxRecDepth 20000 in
set_option maxHeartbeats 4000000 in
theorem sM_scale {g : Gh} {h' : MH} {r' : Int32} {n : Nat} {h : MH} {a_0 : Nat} {i_1 : Int32} {i_2 : Int32} {i_3 : Int32} (hf : fM_scale n h a_0 i_1 i_2 i_3 = some (h', r')) : Sp g yM_scale cM_scale 5 (some .int) rmM_scale h [.ref a_0, .int i_1, .int i_2, .int i_3] h' (some (.int r')) := by
  refine sp_of (by decide) (Nat.le_of_ble_eq_true rfl) ?_
  change V g yM_scale cM_scale 5 (some .int) rmM_scale (ZQ g rmM_scale h' (some (.int r'))) 0 0 h 0 [some (.ref a_0), some (.int i_1), some (.int i_2), some (.int i_3), none] []
  unfold fM_scale at hf
  refine v_aload_n (i := 0) (pc := 0) dM_scale_0 rfl rfl ?_
  refine v_iconst (pc := 1) (0:Int32) dM_scale_1 rfl ?_
  refine v_put (pc := 2) fpM_1 (fun _ => ⟨rfl, rfl⟩) dM_scale_2 hf (fun h1 hf => ?_)
  refine v_iload_n (i := 1) (pc := 5) dM_scale_5 rfl rfl ?_
  obtain ⟨h2, i3, e22, hf⟩ := bndp hf
  refine v_S1 (pc := 6) (As := [.int i_1]) (rest := []) lsM_129 (sM_isPlace e22) ⟨Nat.le_of_ble_eq_true rfl, Nat.le_of_ble_eq_true rfl, Nat.le_of_ble_eq_true rfl, Nat.le_of_ble_eq_true rfl⟩ dM_scale_6 rfl rfl (Nat.le_of_ble_eq_true rfl) ?_
  refine v_if_eq (pc := 9) (tgt := 35) dM_scale_9 rfl hf (fun hf => ?_) (fun hf => ?_)
  · refine v_ldc (pc := 35) dM_scale_35 kiM_90 ?_
    exact v_iret (pc := 37) dM_scale_37 (by decide) (by decide) hf
  refine v_iload_n (i := 2) (pc := 12) dM_scale_12 rfl rfl ?_
  obtain ⟨h4, i5, e21, hf⟩ := bndp hf
  refine v_S1 (pc := 13) (As := [.int i_2]) (rest := []) lsM_129 (sM_isPlace e21) ⟨Nat.le_of_ble_eq_true rfl, Nat.le_of_ble_eq_true rfl, Nat.le_of_ble_eq_true rfl, Nat.le_of_ble_eq_true rfl⟩ dM_scale_13 rfl rfl (Nat.le_of_ble_eq_true rfl) ?_
  refine v_if_eq (pc := 16) (tgt := 35) dM_scale_16 rfl hf (fun hf => ?_) (fun hf => ?_)
  · refine v_ldc (pc := 35) dM_scale_35 kiM_90 ?_
    exact v_iret (pc := 37) dM_scale_37 (by decide) (by decide) hf
  refine v_iload_n (i := 3) (pc := 19) dM_scale_19 rfl rfl ?_
  refine v_i2l (pc := 20) dM_scale_20 ?_
  refine v_lconst (pc := 21) (0:Int64) dM_scale_21 rfl ?_
  refine v_aload_n (i := 0) (pc := 22) dM_scale_22 rfl rfl ?_
  refine v_getI (pc := 23) fgM_80 dM_scale_23 hf (fun i6 hf => ?_)
  refine v_iconst (pc := 26) (1:Int32) dM_scale_26 rfl ?_
  refine v_isub (pc := 27) dM_scale_27 ?_
  refine v_i2l (pc := 28) dM_scale_28 ?_
  obtain ⟨h7, i8, e20, hf⟩ := bndp hf
  refine v_S1 (pc := 29) (As := [.long i_3.toInt64, .long (0:Int64), .long (i6 - (1:Int32)).toInt64]) (rest := []) lsM_71 (sM_in e20) ⟨Nat.le_of_ble_eq_true rfl, Nat.le_of_ble_eq_true rfl, Nat.le_of_ble_eq_true rfl, Nat.le_of_ble_eq_true rfl⟩ dM_scale_29 rfl rfl (Nat.le_of_ble_eq_true rfl) ?_
  refine v_if_ne (pc := 32) (tgt := 38) dM_scale_32 rfl hf (fun hf => ?_) (fun hf => ?_)
  · refine v_ldc (pc := 35) dM_scale_35 kiM_90 ?_
    exact v_iret (pc := 37) dM_scale_37 (by decide) (by decide) hf
  refine v_aload_n (i := 0) (pc := 38) dM_scale_38 rfl rfl ?_
  refine v_getR (pc := 39) fgM_37 dM_scale_39 hf (fun a9 hf => ?_)
  refine v_iload_n (i := 2) (pc := 42) dM_scale_42 rfl rfl ?_
  refine v_iald (pc := 43) dM_scale_43 hf (fun i10 hf => ?_)
  refine v_if_ne (pc := 44) (tgt := 53) dM_scale_44 rfl hf (fun hf => ?_) (fun hf => ?_)
  · refine v_aload_n (i := 0) (pc := 47) dM_scale_47 rfl rfl ?_
    refine v_iconst (pc := 48) (1:Int32) dM_scale_48 rfl ?_
    obtain ⟨u19, cu19, hf⟩ := bnd hf
    obtain ⟨h16, i17, e18, hf⟩ := bndp hf
    refine v_M1 (pc := 49) (As := [.int (1:Int32)]) (rest := []) lmM_119 cu19 (sM_found e18) ⟨Nat.le_of_ble_eq_true rfl, Nat.le_of_ble_eq_true rfl, Nat.le_of_ble_eq_true rfl, Nat.le_of_ble_eq_true rfl⟩ dM_scale_49 rfl rfl (Nat.le_of_ble_eq_true rfl) ?_
    exact v_iret (pc := 52) dM_scale_52 (by decide) (by decide) hf
  refine v_aload_n (i := 0) (pc := 53) dM_scale_53 rfl rfl ?_
  refine v_aload_n (i := 0) (pc := 54) dM_scale_54 rfl rfl ?_
  refine v_getR (pc := 55) fgM_37 dM_scale_55 hf (fun a11 hf => ?_)
  refine v_iload_n (i := 2) (pc := 58) dM_scale_58 rfl rfl ?_
  refine v_iald (pc := 59) dM_scale_59 hf (fun i12 hf => ?_)
  obtain ⟨u15, cu15, hf⟩ := bnd hf
  obtain ⟨h13, e14, hf⟩ := bnd hf
  refine v_M0 (pc := 60) (As := [.int i12]) (rest := []) lmM_138 cu15 (sM_wipe e14) ⟨Nat.le_of_ble_eq_true rfl, Nat.le_of_ble_eq_true rfl, Nat.le_of_ble_eq_true rfl, Nat.le_of_ble_eq_true rfl⟩ dM_scale_60 rfl rfl (Nat.le_of_ble_eq_true rfl) ?_
  refine v_iconst (pc := 63) (0:Int32) dM_scale_63 rfl ?_
  refine v_istore (pc := 64) (ls' := [some (.ref a_0), some (.int i_1), some (.int i_2), some (.int i_3), some (.int (0:Int32))]) dM_scale_64 (by decide) rfl ?_
  refine v_wk (ls' := [some (.ref a_0), some (.int i_1), some (.int i_2), some (.int i_3), some (.int (0:Int32))]) ⟨rfl, rfl, rfl, rfl, rfl, trivial⟩ ?_
  exact tM_scale_66 n h13 a_0 i_1 i_2 i_3 (0:Int32) hf
abbrev rmM_clear : Room := { frames := 2, cells := 0, slots := 0, locals := 45 }
def fM_clear_29 (n : Nat) (h : MH) (s0 : Int32) (x0 : Nat) (x1 : Int32) : Option (MH × Int32) := ((gfR h x0 [12] 9).bind fun a1 => ((wrI h a1 x1 (0:Int32)).bind fun h2 => (if s0 = (0:Int32) then (some (h2, (0:Int32))) else (some (h2, (1:Int32))))))
set_option maxRecDepth 20000 in
set_option maxHeartbeats 4000000 in
theorem tM_clear_29 {g : Gh} {h' : MH} {r' : Int32} (n : Nat) (h : MH) (s0 : Int32) (x0 : Nat) (x1 : Int32) (hf : fM_clear_29 n h s0 x0 x1 = some (h', r')) : V g yM_clear cM_clear 3 (some .int) rmM_clear (ZQ g rmM_clear h' (some (.int r'))) 0 0 h 29 [some (.ref x0), some (.int x1), none] [.int s0] := by
  unfold fM_clear_29 at hf
  refine v_istore_n (i := 2) (pc := 29) (ls' := [some (.ref x0), some (.int x1), some (.int s0)]) dM_clear_29 rfl (by decide) rfl ?_
  refine v_aload_n (i := 0) (pc := 30) dM_clear_30 rfl rfl ?_
  refine v_getR (pc := 31) fgM_37 dM_clear_31 hf (fun a1 hf => ?_)
  refine v_iload_n (i := 1) (pc := 34) dM_clear_34 rfl rfl ?_
  refine v_iconst (pc := 35) (0:Int32) dM_clear_35 rfl ?_
  refine v_iast (pc := 36) dM_clear_36 hf (fun h2 hf => ?_)
  refine v_iload_n (i := 2) (pc := 37) dM_clear_37 rfl rfl ?_
  refine v_if_eq (pc := 38) (tgt := 45) dM_clear_38 rfl hf (fun hf => ?_) (fun hf => ?_)
  · refine v_iconst (pc := 45) (0:Int32) dM_clear_45 rfl ?_
    exact v_iret (pc := 46) dM_clear_46 (by decide) (by decide) hf
  refine v_iconst (pc := 41) (1:Int32) dM_clear_41 rfl ?_
  refine v_goto (pc := 42) (tgt := 46) dM_clear_42 rfl ?_
  exact v_iret (pc := 46) dM_clear_46 (by decide) (by decide) hf
def fM_clear (n : Nat) (h : MH) (a_0 : Nat) (i_1 : Int32) : Option (MH × Int32) := ((pf h a_0 [12] 0 (.int (0:Int32))).bind fun h1 => (bnd2 (fM_isPlace h1 i_1) fun h2 i3 => (if i3 = (0:Int32) then (some (h2, (-1000001:Int32))) else ((gfR h2 a_0 [12] 9).bind fun a4 => ((rdI h2 a4 i_1).bind fun i5 => (if i5 ≤ (0:Int32) then (fM_clear_29 n h2 (0:Int32) a_0 i_1) else (fM_clear_29 n h2 (1:Int32) a_0 i_1)))))))
set_option maxRecDepth 20000 in
set_option maxHeartbeats 4000000 in
theorem sM_clear {g : Gh} {h' : MH} {r' : Int32} {n : Nat} {h : MH} {a_0 : Nat} {i_1 : Int32} (hf : fM_clear n h a_0 i_1 = some (h', r')) : Sp g yM_clear cM_clear 3 (some .int) rmM_clear h [.ref a_0, .int i_1] h' (some (.int r')) := by
  refine sp_of (by decide) (Nat.le_of_ble_eq_true rfl) ?_
  change V g yM_clear cM_clear 3 (some .int) rmM_clear (ZQ g rmM_clear h' (some (.int r'))) 0 0 h 0 [some (.ref a_0), some (.int i_1), none] []
  unfold fM_clear at hf
  refine v_aload_n (i := 0) (pc := 0) dM_clear_0 rfl rfl ?_
  refine v_iconst (pc := 1) (0:Int32) dM_clear_1 rfl ?_
  refine v_put (pc := 2) fpM_1 (fun _ => ⟨rfl, rfl⟩) dM_clear_2 hf (fun h1 hf => ?_)
  refine v_iload_n (i := 1) (pc := 5) dM_clear_5 rfl rfl ?_
  obtain ⟨h2, i3, e6, hf⟩ := bndp hf
  refine v_S1 (pc := 6) (As := [.int i_1]) (rest := []) lsM_129 (sM_isPlace e6) ⟨Nat.le_of_ble_eq_true rfl, Nat.le_of_ble_eq_true rfl, Nat.le_of_ble_eq_true rfl, Nat.le_of_ble_eq_true rfl⟩ dM_clear_6 rfl rfl (Nat.le_of_ble_eq_true rfl) ?_
  refine v_if_ne (pc := 9) (tgt := 15) dM_clear_9 rfl hf (fun hf => ?_) (fun hf => ?_)
  · refine v_ldc (pc := 12) dM_clear_12 kiM_90 ?_
    exact v_iret (pc := 14) dM_clear_14 (by decide) (by decide) hf
  refine v_aload_n (i := 0) (pc := 15) dM_clear_15 rfl rfl ?_
  refine v_getR (pc := 16) fgM_37 dM_clear_16 hf (fun a4 hf => ?_)
  refine v_iload_n (i := 1) (pc := 19) dM_clear_19 rfl rfl ?_
  refine v_iald (pc := 20) dM_clear_20 hf (fun i5 hf => ?_)
  refine v_if_le (pc := 21) (tgt := 28) dM_clear_21 rfl hf (fun hf => ?_) (fun hf => ?_)
  · refine v_iconst (pc := 28) (0:Int32) dM_clear_28 rfl ?_
    refine v_wk (ls' := [some (.ref a_0), some (.int i_1), none]) ⟨rfl, rfl, trivial⟩ ?_
    exact tM_clear_29 n h2 (0:Int32) a_0 i_1 hf
  refine v_iconst (pc := 24) (1:Int32) dM_clear_24 rfl ?_
  refine v_goto (pc := 25) (tgt := 29) dM_clear_25 rfl ?_
  refine v_wk (ls' := [some (.ref a_0), some (.int i_1), none]) ⟨rfl, rfl, trivial⟩ ?_
  exact tM_clear_29 n h2 (1:Int32) a_0 i_1 hf
abbrev rmM_look : Room := { frames := 1, cells := 0, slots := 0, locals := 21 }
def fM_look (h : MH) (a_0 : Nat) (i_1 : Int32) : Option (MH × Int32) := ((pf h a_0 [12] 1 (.int (0:Int32))).bind fun h1 => ((gfR h1 a_0 [12] 9).bind fun a2 => ((rdI h1 a2 i_1).bind fun i3 => (if i3 = (0:Int32) then ((chk h1 a_0 12).bind fun _ => (bnd2 (fM_found h1 a_0 (1:Int32)) fun h4 i5 => (some (h4, i5)))) else (some (h1, (0:Int32)))))))
set_option maxRecDepth 20000 in
set_option maxHeartbeats 4000000 in
theorem sM_look {g : Gh} {h' : MH} {r' : Int32} {h : MH} {a_0 : Nat} {i_1 : Int32} (hf : fM_look h a_0 i_1 = some (h', r')) : Sp g yM_look cM_look 2 (some .int) rmM_look h [.ref a_0, .int i_1] h' (some (.int r')) := by
  refine sp_of (by decide) (Nat.le_of_ble_eq_true rfl) ?_
  change V g yM_look cM_look 2 (some .int) rmM_look (ZQ g rmM_look h' (some (.int r'))) 0 0 h 0 [some (.ref a_0), some (.int i_1)] []
  unfold fM_look at hf
  refine v_aload_n (i := 0) (pc := 0) dM_look_0 rfl rfl ?_
  refine v_iconst (pc := 1) (0:Int32) dM_look_1 rfl ?_
  refine v_put (pc := 2) fpM_7 (fun _ => ⟨rfl, rfl⟩) dM_look_2 hf (fun h1 hf => ?_)
  refine v_aload_n (i := 0) (pc := 5) dM_look_5 rfl rfl ?_
  refine v_getR (pc := 6) fgM_37 dM_look_6 hf (fun a2 hf => ?_)
  refine v_iload_n (i := 1) (pc := 9) dM_look_9 rfl rfl ?_
  refine v_iald (pc := 10) dM_look_10 hf (fun i3 hf => ?_)
  refine v_if_ne (pc := 11) (tgt := 22) dM_look_11 rfl hf (fun hf => ?_) (fun hf => ?_)
  rotate_left
  · refine v_iconst (pc := 22) (0:Int32) dM_look_22 rfl ?_
    exact v_iret (pc := 23) dM_look_23 (by decide) (by decide) hf
  refine v_aload_n (i := 0) (pc := 14) dM_look_14 rfl rfl ?_
  refine v_iconst (pc := 15) (1:Int32) dM_look_15 rfl ?_
  obtain ⟨u7, cu7, hf⟩ := bnd hf
  obtain ⟨h4, i5, e6, hf⟩ := bndp hf
  refine v_M1 (pc := 16) (As := [.int (1:Int32)]) (rest := []) lmM_119 cu7 (sM_found e6) ⟨Nat.le_of_ble_eq_true rfl, Nat.le_of_ble_eq_true rfl, Nat.le_of_ble_eq_true rfl, Nat.le_of_ble_eq_true rfl⟩ dM_look_16 rfl rfl (Nat.le_of_ble_eq_true rfl) ?_
  refine v_goto (pc := 19) (tgt := 23) dM_look_19 rfl ?_
  exact v_iret (pc := 23) dM_look_23 (by decide) (by decide) hf
abbrev rmM_number : Room := { frames := 2, cells := 0, slots := 0, locals := 45 }
def fM_number_78 (n : Nat) (h : MH) (x0 : Nat) (x4 : Int32) : Option (MH × Int32) := ((pf h x0 [12] 1 (.int x4)).bind fun h1 => (some (h1, (-1000001:Int32))))
set_option maxRecDepth 20000 in
set_option maxHeartbeats 4000000 in
theorem tM_number_78 {g : Gh} {h' : MH} {r' : Int32} (n : Nat) (h : MH) (x0 : Nat) (x4 : Int32) (hf : fM_number_78 n h x0 x4 = some (h', r')) : V g yM_number cM_number 7 (some .int) rmM_number (ZQ g rmM_number h' (some (.int r'))) 0 0 h 78 [some (.ref x0), none, none, none, some (.int x4), none, none] [] := by
  unfold fM_number_78 at hf
  refine v_aload_n (i := 0) (pc := 78) dM_number_78 rfl rfl ?_
  refine v_iload (pc := 79) dM_number_79 rfl ?_
  refine v_put (pc := 81) fpM_7 (fun _ => ⟨rfl, rfl⟩) dM_number_81 hf (fun h1 hf => ?_)
  refine v_ldc (pc := 84) dM_number_84 kiM_90 ?_
  exact v_iret (pc := 86) dM_number_86 (by decide) (by decide) hf
def fM_number (n : Nat) (h : MH) (a_0 : Nat) (i_1 : Int32) (i_2 : Int32) (i_3 : Int32) : Option (MH × Int32) := ((pf h a_0 [12] 0 (.int (0:Int32))).bind fun h1 => (bnd2 (fM_isPlace h1 i_1) fun h2 i3 => (if i3 = (0:Int32) then (some (h2, (-1000001:Int32))) else ((gfI h2 a_0 [12] 1).bind fun i4 => ((chk h2 a_0 12).bind fun _ => (bnd2 (fM_look h2 a_0 i_1) fun h5 i6 => (if (0:Int32) ≤ i6 then ((gfR h5 a_0 [12] 9).bind fun a7 => ((rdI h5 a7 i_1).bind fun i8 => (if i_2 = (-1:Int32) then (some (h5, i8)) else (bnd2 (fM_in h5 i_2.toInt64 (0:Int64) i8.toInt64) fun h9 i10 => (if i10 = (0:Int32) then (fM_number_78 n h9 a_0 i4) else (bnd2 (fM_in h9 i_3.toInt64 (0:Int64) (i8 - (1:Int32)).toInt64) fun h11 i12 => (if i12 = (0:Int32) then (fM_number_78 n h11 a_0 i4) else (if i_2 = i8 then ((gfR h11 a_0 [12] 11).bind fun a15 => ((rdL h11 a15 (((8:Int32) * i_1) + i_3)).bind fun j16 => (some (h11, j16.toInt32)))) else ((gfR h11 a_0 [12] 10).bind fun a13 => ((rdL h11 a13 ((((64:Int32) * i_1) + ((8:Int32) * i_2)) + i_3)).bind fun j14 => (some (h11, j14.toInt32)))))))))))) else (some (h5, i6)))))))))
set_option maxRecDepth 20000 in
set_option maxHeartbeats 4000000 in
theorem sM_number {g : Gh} {h' : MH} {r' : Int32} {n : Nat} {h : MH} {a_0 : Nat} {i_1 : Int32} {i_2 : Int32} {i_3 : Int32} (hf : fM_number n h a_0 i_1 i_2 i_3 = some (h', r')) : Sp g yM_number cM_number 7 (some .int) rmM_number h [.ref a_0, .int i_1, .int i_2, .int i_3] h' (some (.int r')) := by
  refine sp_of (by decide) (Nat.le_of_ble_eq_true rfl) ?_
  change V g yM_number cM_number 7 (some .int) rmM_number (ZQ g rmM_number h' (some (.int r'))) 0 0 h 0 [some (.ref a_0), some (.int i_1), some (.int i_2), some (.int i_3), none, none, none] []
  unfold fM_number at hf
  refine v_aload_n (i := 0) (pc := 0) dM_number_0 rfl rfl ?_
  refine v_iconst (pc := 1) (0:Int32) dM_number_1 rfl ?_
  refine v_put (pc := 2) fpM_1 (fun _ => ⟨rfl, rfl⟩) dM_number_2 hf (fun h1 hf => ?_)
  refine v_iload_n (i := 1) (pc := 5) dM_number_5 rfl rfl ?_
  obtain ⟨h2, i3, e21, hf⟩ := bndp hf
  refine v_S1 (pc := 6) (As := [.int i_1]) (rest := []) lsM_129 (sM_isPlace e21) ⟨Nat.le_of_ble_eq_true rfl, Nat.le_of_ble_eq_true rfl, Nat.le_of_ble_eq_true rfl, Nat.le_of_ble_eq_true rfl⟩ dM_number_6 rfl rfl (Nat.le_of_ble_eq_true rfl) ?_
  refine v_if_ne (pc := 9) (tgt := 15) dM_number_9 rfl hf (fun hf => ?_) (fun hf => ?_)
  · refine v_ldc (pc := 12) dM_number_12 kiM_90 ?_
    exact v_iret (pc := 14) dM_number_14 (by decide) (by decide) hf
  refine v_aload_n (i := 0) (pc := 15) dM_number_15 rfl rfl ?_
  refine v_getI (pc := 16) fgM_7 dM_number_16 hf (fun i4 hf => ?_)
  refine v_istore (pc := 19) (ls' := [some (.ref a_0), some (.int i_1), some (.int i_2), some (.int i_3), some (.int i4), none, none]) dM_number_19 (by decide) rfl ?_
  refine v_aload_n (i := 0) (pc := 21) dM_number_21 rfl rfl ?_
  refine v_iload_n (i := 1) (pc := 22) dM_number_22 rfl rfl ?_
  obtain ⟨u20, cu20, hf⟩ := bnd hf
  obtain ⟨h5, i6, e19, hf⟩ := bndp hf
  refine v_M1 (pc := 23) (As := [.int i_1]) (rest := []) lmM_149 cu20 (sM_look e19) ⟨Nat.le_of_ble_eq_true rfl, Nat.le_of_ble_eq_true rfl, Nat.le_of_ble_eq_true rfl, Nat.le_of_ble_eq_true rfl⟩ dM_number_23 rfl rfl (Nat.le_of_ble_eq_true rfl) ?_
  refine v_istore (pc := 26) (ls' := [some (.ref a_0), some (.int i_1), some (.int i_2), some (.int i_3), some (.int i4), some (.int i6), none]) dM_number_26 (by decide) rfl ?_
  refine v_iload (pc := 28) dM_number_28 rfl ?_
  refine v_if_ge (pc := 30) (tgt := 36) dM_number_30 rfl hf (fun hf => ?_) (fun hf => ?_)
  rotate_left
  · refine v_iload (pc := 33) dM_number_33 rfl ?_
    exact v_iret (pc := 35) dM_number_35 (by decide) (by decide) hf
  refine v_aload_n (i := 0) (pc := 36) dM_number_36 rfl rfl ?_
  refine v_getR (pc := 37) fgM_37 dM_number_37 hf (fun a7 hf => ?_)
  refine v_iload_n (i := 1) (pc := 40) dM_number_40 rfl rfl ?_
  refine v_iald (pc := 41) dM_number_41 hf (fun i8 hf => ?_)
  refine v_istore (pc := 42) (ls' := [some (.ref a_0), some (.int i_1), some (.int i_2), some (.int i_3), some (.int i4), some (.int i6), some (.int i8)]) dM_number_42 (by decide) rfl ?_
  refine v_iload_n (i := 2) (pc := 44) dM_number_44 rfl rfl ?_
  refine v_iconst (pc := 45) (-1:Int32) dM_number_45 rfl ?_
  refine v_icmp_ne (pc := 46) (tgt := 52) dM_number_46 rfl hf (fun hf => ?_) (fun hf => ?_)
  · refine v_iload (pc := 49) dM_number_49 rfl ?_
    exact v_iret (pc := 51) dM_number_51 (by decide) (by decide) hf
  refine v_iload_n (i := 2) (pc := 52) dM_number_52 rfl rfl ?_
  refine v_i2l (pc := 53) dM_number_53 ?_
  refine v_lconst (pc := 54) (0:Int64) dM_number_54 rfl ?_
  refine v_iload (pc := 55) dM_number_55 rfl ?_
  refine v_i2l (pc := 57) dM_number_57 ?_
  obtain ⟨h9, i10, e18, hf⟩ := bndp hf
  refine v_S1 (pc := 58) (As := [.long i_2.toInt64, .long (0:Int64), .long i8.toInt64]) (rest := []) lsM_71 (sM_in e18) ⟨Nat.le_of_ble_eq_true rfl, Nat.le_of_ble_eq_true rfl, Nat.le_of_ble_eq_true rfl, Nat.le_of_ble_eq_true rfl⟩ dM_number_58 rfl rfl (Nat.le_of_ble_eq_true rfl) ?_
  refine v_if_eq (pc := 61) (tgt := 78) dM_number_61 rfl hf (fun hf => ?_) (fun hf => ?_)
  · refine v_wk (ls' := [some (.ref a_0), none, none, none, some (.int i4), none, none]) ⟨rfl, rfl, trivial⟩ ?_
    exact tM_number_78 n h9 a_0 i4 hf
  refine v_iload_n (i := 3) (pc := 64) dM_number_64 rfl rfl ?_
  refine v_i2l (pc := 65) dM_number_65 ?_
  refine v_lconst (pc := 66) (0:Int64) dM_number_66 rfl ?_
  refine v_iload (pc := 67) dM_number_67 rfl ?_
  refine v_iconst (pc := 69) (1:Int32) dM_number_69 rfl ?_
  refine v_isub (pc := 70) dM_number_70 ?_
  refine v_i2l (pc := 71) dM_number_71 ?_
  obtain ⟨h11, i12, e17, hf⟩ := bndp hf
  refine v_S1 (pc := 72) (As := [.long i_3.toInt64, .long (0:Int64), .long (i8 - (1:Int32)).toInt64]) (rest := []) lsM_71 (sM_in e17) ⟨Nat.le_of_ble_eq_true rfl, Nat.le_of_ble_eq_true rfl, Nat.le_of_ble_eq_true rfl, Nat.le_of_ble_eq_true rfl⟩ dM_number_72 rfl rfl (Nat.le_of_ble_eq_true rfl) ?_
  refine v_if_ne (pc := 75) (tgt := 87) dM_number_75 rfl hf (fun hf => ?_) (fun hf => ?_)
  · refine v_wk (ls' := [some (.ref a_0), none, none, none, some (.int i4), none, none]) ⟨rfl, rfl, trivial⟩ ?_
    exact tM_number_78 n h11 a_0 i4 hf
  refine v_iload_n (i := 2) (pc := 87) dM_number_87 rfl rfl ?_
  refine v_iload (pc := 88) dM_number_88 rfl ?_
  refine v_icmp_ne (pc := 90) (tgt := 107) dM_number_90 rfl hf (fun hf => ?_) (fun hf => ?_)
  · refine v_aload_n (i := 0) (pc := 93) dM_number_93 rfl rfl ?_
    refine v_getR (pc := 94) fgM_43 dM_number_94 hf (fun a15 hf => ?_)
    refine v_bipush (pc := 97) (8:Int32) dM_number_97 rfl ?_
    refine v_iload_n (i := 1) (pc := 99) dM_number_99 rfl rfl ?_
    refine v_imul (pc := 100) dM_number_100 ?_
    refine v_iload_n (i := 3) (pc := 101) dM_number_101 rfl rfl ?_
    refine v_iadd (pc := 102) dM_number_102 ?_
    refine v_lald (pc := 103) dM_number_103 hf (fun j16 hf => ?_)
    refine v_goto (pc := 104) (tgt := 123) dM_number_104 rfl ?_
    refine v_l2i (pc := 123) dM_number_123 ?_
    exact v_iret (pc := 124) dM_number_124 (by decide) (by decide) hf
  refine v_aload_n (i := 0) (pc := 107) dM_number_107 rfl rfl ?_
  refine v_getR (pc := 108) fgM_40 dM_number_108 hf (fun a13 hf => ?_)
  refine v_bipush (pc := 111) (64:Int32) dM_number_111 rfl ?_
  refine v_iload_n (i := 1) (pc := 113) dM_number_113 rfl rfl ?_
  refine v_imul (pc := 114) dM_number_114 ?_
  refine v_bipush (pc := 115) (8:Int32) dM_number_115 rfl ?_
  refine v_iload_n (i := 2) (pc := 117) dM_number_117 rfl rfl ?_
  refine v_imul (pc := 118) dM_number_118 ?_
  refine v_iadd (pc := 119) dM_number_119 ?_
  refine v_iload_n (i := 3) (pc := 120) dM_number_120 rfl rfl ?_
  refine v_iadd (pc := 121) dM_number_121 ?_
  refine v_lald (pc := 122) dM_number_122 hf (fun j14 hf => ?_)
  refine v_l2i (pc := 123) dM_number_123 ?_
  exact v_iret (pc := 124) dM_number_124 (by decide) (by decide) hf
abbrev rmM_kind : Room := { frames := 2, cells := 0, slots := 0, locals := 45 }
def fM_kind (n : Nat) (h : MH) (a_0 : Nat) (i_1 : Int32) : Option (MH × Int32) := ((pf h a_0 [12] 0 (.int (0:Int32))).bind fun h1 => (bnd2 (fM_isPlace h1 i_1) fun h2 i3 => (if i3 = (0:Int32) then (some (h2, (-1000001:Int32))) else ((chk h2 a_0 12).bind fun _ => (bnd2 (fM_look h2 a_0 i_1) fun h4 i5 => (if (0:Int32) ≤ i5 then ((chk h4 a_0 12).bind fun _ => (bnd2 (fM_kindOf n h4 a_0 i_1) fun h6 i7 => (some (h6, i7)))) else (some (h4, i5))))))))
set_option maxRecDepth 20000 in
set_option maxHeartbeats 4000000 in
theorem sM_kind {g : Gh} {h' : MH} {r' : Int32} {n : Nat} {h : MH} {a_0 : Nat} {i_1 : Int32} (hf : fM_kind n h a_0 i_1 = some (h', r')) : Sp g yM_kind cM_kind 3 (some .int) rmM_kind h [.ref a_0, .int i_1] h' (some (.int r')) := by
  refine sp_of (by decide) (Nat.le_of_ble_eq_true rfl) ?_
  change V g yM_kind cM_kind 3 (some .int) rmM_kind (ZQ g rmM_kind h' (some (.int r'))) 0 0 h 0 [some (.ref a_0), some (.int i_1), none] []
  unfold fM_kind at hf
  refine v_aload_n (i := 0) (pc := 0) dM_kind_0 rfl rfl ?_
  refine v_iconst (pc := 1) (0:Int32) dM_kind_1 rfl ?_
  refine v_put (pc := 2) fpM_1 (fun _ => ⟨rfl, rfl⟩) dM_kind_2 hf (fun h1 hf => ?_)
  refine v_iload_n (i := 1) (pc := 5) dM_kind_5 rfl rfl ?_
  obtain ⟨h2, i3, e12, hf⟩ := bndp hf
  refine v_S1 (pc := 6) (As := [.int i_1]) (rest := []) lsM_129 (sM_isPlace e12) ⟨Nat.le_of_ble_eq_true rfl, Nat.le_of_ble_eq_true rfl, Nat.le_of_ble_eq_true rfl, Nat.le_of_ble_eq_true rfl⟩ dM_kind_6 rfl rfl (Nat.le_of_ble_eq_true rfl) ?_
  refine v_if_ne (pc := 9) (tgt := 15) dM_kind_9 rfl hf (fun hf => ?_) (fun hf => ?_)
  · refine v_ldc (pc := 12) dM_kind_12 kiM_90 ?_
    exact v_iret (pc := 14) dM_kind_14 (by decide) (by decide) hf
  refine v_aload_n (i := 0) (pc := 15) dM_kind_15 rfl rfl ?_
  refine v_iload_n (i := 1) (pc := 16) dM_kind_16 rfl rfl ?_
  obtain ⟨u11, cu11, hf⟩ := bnd hf
  obtain ⟨h4, i5, e10, hf⟩ := bndp hf
  refine v_M1 (pc := 17) (As := [.int i_1]) (rest := []) lmM_149 cu11 (sM_look e10) ⟨Nat.le_of_ble_eq_true rfl, Nat.le_of_ble_eq_true rfl, Nat.le_of_ble_eq_true rfl, Nat.le_of_ble_eq_true rfl⟩ dM_kind_17 rfl rfl (Nat.le_of_ble_eq_true rfl) ?_
  refine v_istore_n (i := 2) (pc := 20) (ls' := [some (.ref a_0), some (.int i_1), some (.int i5)]) dM_kind_20 rfl (by decide) rfl ?_
  refine v_iload_n (i := 2) (pc := 21) dM_kind_21 rfl rfl ?_
  refine v_if_ge (pc := 22) (tgt := 29) dM_kind_22 rfl hf (fun hf => ?_) (fun hf => ?_)
  rotate_left
  · refine v_iload_n (i := 2) (pc := 25) dM_kind_25 rfl rfl ?_
    refine v_goto (pc := 26) (tgt := 34) dM_kind_26 rfl ?_
    exact v_iret (pc := 34) dM_kind_34 (by decide) (by decide) hf
  refine v_aload_n (i := 0) (pc := 29) dM_kind_29 rfl rfl ?_
  refine v_iload_n (i := 1) (pc := 30) dM_kind_30 rfl rfl ?_
  obtain ⟨u9, cu9, hf⟩ := bnd hf
  obtain ⟨h6, i7, e8, hf⟩ := bndp hf
  refine v_M1 (pc := 31) (As := [.int i_1]) (rest := []) lmM_126 cu9 (sM_kindOf e8) ⟨Nat.le_of_ble_eq_true rfl, Nat.le_of_ble_eq_true rfl, Nat.le_of_ble_eq_true rfl, Nat.le_of_ble_eq_true rfl⟩ dM_kind_31 rfl rfl (Nat.le_of_ble_eq_true rfl) ?_
  exact v_iret (pc := 34) dM_kind_34 (by decide) (by decide) hf
abbrev rmM_isOf : Room := { frames := 0, cells := 0, slots := 0, locals := 0 }
def fM_isOf_19 (n : Nat) (h : MH) : Option (MH × Int32) := (retZ h (1:Int32))
set_option maxRecDepth 20000 in
set_option maxHeartbeats 4000000 in
theorem tM_isOf_19 {g : Gh} {h' : MH} {r' : Int32} (n : Nat) (h : MH) (hf : fM_isOf_19 n h = some (h', r')) : V g yM_isOf cM_isOf 2 (some .boolean) rmM_isOf (ZQ g rmM_isOf h' (some (.int r'))) 0 0 h 19 [none, none] [] := by
  unfold fM_isOf_19 at hf
  refine v_iconst (pc := 19) (1:Int32) dM_isOf_19 rfl ?_
  refine v_goto (pc := 20) (tgt := 24) dM_isOf_20 rfl ?_
  exact v_zret (pc := 24) dM_isOf_24 (by decide) (by decide) hf
def fM_isOf (n : Nat) (h : MH) (i_0 : Int32) (i_1 : Int32) : Option (MH × Int32) := (if i_1 = (0:Int32) then (fM_isOf_19 n h) else (if i_0 = i_1 then (fM_isOf_19 n h) else (if i_1 = (1:Int32) then (if i_0 = (2:Int32) then (fM_isOf_19 n h) else (retZ h (0:Int32))) else (retZ h (0:Int32)))))
set_option maxRecDepth 20000 in
set_option maxHeartbeats 4000000 in
theorem sM_isOf {g : Gh} {h' : MH} {r' : Int32} {n : Nat} {h : MH} {i_0 : Int32} {i_1 : Int32} (hf : fM_isOf n h i_0 i_1 = some (h', r')) : Sp g yM_isOf cM_isOf 2 (some .boolean) rmM_isOf h [.int i_0, .int i_1] h' (some (.int r')) := by
  refine sp_of (by decide) (Nat.le_of_ble_eq_true rfl) ?_
  change V g yM_isOf cM_isOf 2 (some .boolean) rmM_isOf (ZQ g rmM_isOf h' (some (.int r'))) 0 0 h 0 [some (.int i_0), some (.int i_1)] []
  unfold fM_isOf at hf
  refine v_iload_n (i := 1) (pc := 0) dM_isOf_0 rfl rfl ?_
  refine v_if_eq (pc := 1) (tgt := 19) dM_isOf_1 rfl hf (fun hf => ?_) (fun hf => ?_)
  · refine v_wk (ls' := [none, none]) trivial ?_
    exact tM_isOf_19 n h hf
  refine v_iload_n (i := 0) (pc := 4) dM_isOf_4 rfl rfl ?_
  refine v_iload_n (i := 1) (pc := 5) dM_isOf_5 rfl rfl ?_
  refine v_icmp_eq (pc := 6) (tgt := 19) dM_isOf_6 rfl hf (fun hf => ?_) (fun hf => ?_)
  · refine v_wk (ls' := [none, none]) trivial ?_
    exact tM_isOf_19 n h hf
  refine v_iload_n (i := 1) (pc := 9) dM_isOf_9 rfl rfl ?_
  refine v_iconst (pc := 10) (1:Int32) dM_isOf_10 rfl ?_
  refine v_icmp_ne (pc := 11) (tgt := 23) dM_isOf_11 rfl hf (fun hf => ?_) (fun hf => ?_)
  rotate_left
  · refine v_iconst (pc := 23) (0:Int32) dM_isOf_23 rfl ?_
    exact v_zret (pc := 24) dM_isOf_24 (by decide) (by decide) hf
  refine v_iload_n (i := 0) (pc := 14) dM_isOf_14 rfl rfl ?_
  refine v_iconst (pc := 15) (2:Int32) dM_isOf_15 rfl ?_
  refine v_icmp_ne (pc := 16) (tgt := 23) dM_isOf_16 rfl hf (fun hf => ?_) (fun hf => ?_)
  · refine v_wk (ls' := [none, none]) trivial ?_
    exact tM_isOf_19 n h hf
  refine v_iconst (pc := 23) (0:Int32) dM_isOf_23 rfl ?_
  exact v_zret (pc := 24) dM_isOf_24 (by decide) (by decide) hf
abbrev rmM_is : Room := { frames := 2, cells := 0, slots := 0, locals := 45 }
def fM_is_24 (n : Nat) (h : MH) : Option (MH × Int32) := (some (h, (-1000001:Int32)))
set_option maxRecDepth 20000 in
set_option maxHeartbeats 4000000 in
theorem tM_is_24 {g : Gh} {h' : MH} {r' : Int32} (n : Nat) (h : MH) (hf : fM_is_24 n h = some (h', r')) : V g yM_is cM_is 3 (some .int) rmM_is (ZQ g rmM_is h' (some (.int r'))) 0 0 h 24 [none, none, none] [] := by
  unfold fM_is_24 at hf
  refine v_ldc (pc := 24) dM_is_24 kiM_90 ?_
  refine v_goto (pc := 26) (tgt := 55) dM_is_26 rfl ?_
  exact v_iret (pc := 55) dM_is_55 (by decide) (by decide) hf
def fM_is (n : Nat) (h : MH) (a_0 : Nat) (i_1 : Int32) (i_2 : Int32) : Option (MH × Int32) := ((pf h a_0 [12] 0 (.int (0:Int32))).bind fun h1 => (bnd2 (fM_isPlace h1 i_1) fun h2 i3 => (if i3 = (0:Int32) then (fM_is_24 n h2) else (bnd2 (fM_in h2 i_2.toInt64 (0:Int64) (3:Int64)) fun h4 i5 => (if i5 = (0:Int32) then (fM_is_24 n h4) else ((gfR h4 a_0 [12] 9).bind fun a6 => ((rdI h4 a6 i_1).bind fun i7 => (if i7 ≤ (0:Int32) then (some (h4, (0:Int32))) else ((chk h4 a_0 12).bind fun _ => (bnd2 (fM_kindOf n h4 a_0 i_1) fun h8 i9 => (bnd2 (fM_isOf n h8 i9 i_2) fun h10 i11 => (if i11 = (0:Int32) then (some (h10, (0:Int32))) else (some (h10, (1:Int32)))))))))))))))
set_option maxRecDepth 20000 in
set_option maxHeartbeats 4000000 in
theorem sM_is {g : Gh} {h' : MH} {r' : Int32} {n : Nat} {h : MH} {a_0 : Nat} {i_1 : Int32} {i_2 : Int32} (hf : fM_is n h a_0 i_1 i_2 = some (h', r')) : Sp g yM_is cM_is 3 (some .int) rmM_is h [.ref a_0, .int i_1, .int i_2] h' (some (.int r')) := by
  refine sp_of (by decide) (Nat.le_of_ble_eq_true rfl) ?_
  change V g yM_is cM_is 3 (some .int) rmM_is (ZQ g rmM_is h' (some (.int r'))) 0 0 h 0 [some (.ref a_0), some (.int i_1), some (.int i_2)] []
  unfold fM_is at hf
  refine v_aload_n (i := 0) (pc := 0) dM_is_0 rfl rfl ?_
  refine v_iconst (pc := 1) (0:Int32) dM_is_1 rfl ?_
  refine v_put (pc := 2) fpM_1 (fun _ => ⟨rfl, rfl⟩) dM_is_2 hf (fun h1 hf => ?_)
  refine v_iload_n (i := 1) (pc := 5) dM_is_5 rfl rfl ?_
  obtain ⟨h2, i3, e16, hf⟩ := bndp hf
  refine v_S1 (pc := 6) (As := [.int i_1]) (rest := []) lsM_129 (sM_isPlace e16) ⟨Nat.le_of_ble_eq_true rfl, Nat.le_of_ble_eq_true rfl, Nat.le_of_ble_eq_true rfl, Nat.le_of_ble_eq_true rfl⟩ dM_is_6 rfl rfl (Nat.le_of_ble_eq_true rfl) ?_
  refine v_if_eq (pc := 9) (tgt := 24) dM_is_9 rfl hf (fun hf => ?_) (fun hf => ?_)
  · refine v_wk (ls' := [none, none, none]) trivial ?_
    exact tM_is_24 n h2 hf
  refine v_iload_n (i := 2) (pc := 12) dM_is_12 rfl rfl ?_
  refine v_i2l (pc := 13) dM_is_13 ?_
  refine v_lconst (pc := 14) (0:Int64) dM_is_14 rfl ?_
  refine v_ldc2 (pc := 15) dM_is_15 klM_99 ?_
  obtain ⟨h4, i5, e15, hf⟩ := bndp hf
  refine v_S1 (pc := 18) (As := [.long i_2.toInt64, .long (0:Int64), .long (3:Int64)]) (rest := []) lsM_71 (sM_in e15) ⟨Nat.le_of_ble_eq_true rfl, Nat.le_of_ble_eq_true rfl, Nat.le_of_ble_eq_true rfl, Nat.le_of_ble_eq_true rfl⟩ dM_is_18 rfl rfl (Nat.le_of_ble_eq_true rfl) ?_
  refine v_if_ne (pc := 21) (tgt := 29) dM_is_21 rfl hf (fun hf => ?_) (fun hf => ?_)
  · refine v_wk (ls' := [none, none, none]) trivial ?_
    exact tM_is_24 n h4 hf
  refine v_aload_n (i := 0) (pc := 29) dM_is_29 rfl rfl ?_
  refine v_getR (pc := 30) fgM_37 dM_is_30 hf (fun a6 hf => ?_)
  refine v_iload_n (i := 1) (pc := 33) dM_is_33 rfl rfl ?_
  refine v_iald (pc := 34) dM_is_34 hf (fun i7 hf => ?_)
  refine v_if_le (pc := 35) (tgt := 54) dM_is_35 rfl hf (fun hf => ?_) (fun hf => ?_)
  · refine v_iconst (pc := 54) (0:Int32) dM_is_54 rfl ?_
    exact v_iret (pc := 55) dM_is_55 (by decide) (by decide) hf
  refine v_aload_n (i := 0) (pc := 38) dM_is_38 rfl rfl ?_
  refine v_iload_n (i := 1) (pc := 39) dM_is_39 rfl rfl ?_
  obtain ⟨u14, cu14, hf⟩ := bnd hf
  obtain ⟨h8, i9, e13, hf⟩ := bndp hf
  refine v_M1 (pc := 40) (As := [.int i_1]) (rest := []) lmM_126 cu14 (sM_kindOf e13) ⟨Nat.le_of_ble_eq_true rfl, Nat.le_of_ble_eq_true rfl, Nat.le_of_ble_eq_true rfl, Nat.le_of_ble_eq_true rfl⟩ dM_is_40 rfl rfl (Nat.le_of_ble_eq_true rfl) ?_
  refine v_iload_n (i := 2) (pc := 43) dM_is_43 rfl rfl ?_
  obtain ⟨h10, i11, e12, hf⟩ := bndp hf
  refine v_S1 (pc := 44) (As := [.int i9, .int i_2]) (rest := []) lsM_152 (sM_isOf e12) ⟨Nat.le_of_ble_eq_true rfl, Nat.le_of_ble_eq_true rfl, Nat.le_of_ble_eq_true rfl, Nat.le_of_ble_eq_true rfl⟩ dM_is_44 rfl rfl (Nat.le_of_ble_eq_true rfl) ?_
  refine v_if_eq (pc := 47) (tgt := 54) dM_is_47 rfl hf (fun hf => ?_) (fun hf => ?_)
  · refine v_iconst (pc := 54) (0:Int32) dM_is_54 rfl ?_
    exact v_iret (pc := 55) dM_is_55 (by decide) (by decide) hf
  refine v_iconst (pc := 50) (1:Int32) dM_is_50 rfl ?_
  refine v_goto (pc := 51) (tgt := 55) dM_is_51 rfl ?_
  exact v_iret (pc := 55) dM_is_55 (by decide) (by decide) hf
abbrev rmM_as : Room := { frames := 2, cells := 0, slots := 0, locals := 45 }
def fM_as (n : Nat) (h : MH) (a_0 : Nat) (i_1 : Int32) (i_2 : Int32) : Option (MH × Int32) := ((pf h a_0 [12] 0 (.int (0:Int32))).bind fun h1 => (bnd2 (fM_isPlace h1 i_1) fun h2 i3 => (if i3 = (0:Int32) then (some (h2, (-1000001:Int32))) else (bnd2 (fM_in h2 i_2.toInt64 (0:Int64) (3:Int64)) fun h4 i5 => (if i5 = (0:Int32) then (some (h4, (-1000001:Int32))) else ((chk h4 a_0 12).bind fun _ => (bnd2 (fM_look h4 a_0 i_1) fun h6 i7 => (if (0:Int32) ≤ i7 then ((chk h6 a_0 12).bind fun _ => (bnd2 (fM_kindOf n h6 a_0 i_1) fun h8 i9 => (bnd2 (fM_isOf n h8 i9 i_2) fun h10 i11 => (if i11 = (0:Int32) then ((chk h10 a_0 12).bind fun _ => (bnd2 (fM_found h10 a_0 (3:Int32)) fun h12 i13 => (some (h12, i13)))) else ((gfR h10 a_0 [12] 9).bind fun a16 => ((rdI h10 a16 i_1).bind fun i17 => (some (h10, i17)))))))) else (some (h6, i7))))))))))
set_option maxRecDepth 20000 in
set_option maxHeartbeats 4000000 in
theorem sM_as {g : Gh} {h' : MH} {r' : Int32} {n : Nat} {h : MH} {a_0 : Nat} {i_1 : Int32} {i_2 : Int32} (hf : fM_as n h a_0 i_1 i_2 = some (h', r')) : Sp g yM_as cM_as 4 (some .int) rmM_as h [.ref a_0, .int i_1, .int i_2] h' (some (.int r')) := by
  refine sp_of (by decide) (Nat.le_of_ble_eq_true rfl) ?_
  change V g yM_as cM_as 4 (some .int) rmM_as (ZQ g rmM_as h' (some (.int r'))) 0 0 h 0 [some (.ref a_0), some (.int i_1), some (.int i_2), none] []
  unfold fM_as at hf
  refine v_aload_n (i := 0) (pc := 0) dM_as_0 rfl rfl ?_
  refine v_iconst (pc := 1) (0:Int32) dM_as_1 rfl ?_
  refine v_put (pc := 2) fpM_1 (fun _ => ⟨rfl, rfl⟩) dM_as_2 hf (fun h1 hf => ?_)
  refine v_iload_n (i := 1) (pc := 5) dM_as_5 rfl rfl ?_
  obtain ⟨h2, i3, e24, hf⟩ := bndp hf
  refine v_S1 (pc := 6) (As := [.int i_1]) (rest := []) lsM_129 (sM_isPlace e24) ⟨Nat.le_of_ble_eq_true rfl, Nat.le_of_ble_eq_true rfl, Nat.le_of_ble_eq_true rfl, Nat.le_of_ble_eq_true rfl⟩ dM_as_6 rfl rfl (Nat.le_of_ble_eq_true rfl) ?_
  refine v_if_eq (pc := 9) (tgt := 24) dM_as_9 rfl hf (fun hf => ?_) (fun hf => ?_)
  · refine v_ldc (pc := 24) dM_as_24 kiM_90 ?_
    exact v_iret (pc := 26) dM_as_26 (by decide) (by decide) hf
  refine v_iload_n (i := 2) (pc := 12) dM_as_12 rfl rfl ?_
  refine v_i2l (pc := 13) dM_as_13 ?_
  refine v_lconst (pc := 14) (0:Int64) dM_as_14 rfl ?_
  refine v_ldc2 (pc := 15) dM_as_15 klM_99 ?_
  obtain ⟨h4, i5, e23, hf⟩ := bndp hf
  refine v_S1 (pc := 18) (As := [.long i_2.toInt64, .long (0:Int64), .long (3:Int64)]) (rest := []) lsM_71 (sM_in e23) ⟨Nat.le_of_ble_eq_true rfl, Nat.le_of_ble_eq_true rfl, Nat.le_of_ble_eq_true rfl, Nat.le_of_ble_eq_true rfl⟩ dM_as_18 rfl rfl (Nat.le_of_ble_eq_true rfl) ?_
  refine v_if_ne (pc := 21) (tgt := 27) dM_as_21 rfl hf (fun hf => ?_) (fun hf => ?_)
  · refine v_ldc (pc := 24) dM_as_24 kiM_90 ?_
    exact v_iret (pc := 26) dM_as_26 (by decide) (by decide) hf
  refine v_aload_n (i := 0) (pc := 27) dM_as_27 rfl rfl ?_
  refine v_iload_n (i := 1) (pc := 28) dM_as_28 rfl rfl ?_
  obtain ⟨u22, cu22, hf⟩ := bnd hf
  obtain ⟨h6, i7, e21, hf⟩ := bndp hf
  refine v_M1 (pc := 29) (As := [.int i_1]) (rest := []) lmM_149 cu22 (sM_look e21) ⟨Nat.le_of_ble_eq_true rfl, Nat.le_of_ble_eq_true rfl, Nat.le_of_ble_eq_true rfl, Nat.le_of_ble_eq_true rfl⟩ dM_as_29 rfl rfl (Nat.le_of_ble_eq_true rfl) ?_
  refine v_istore_n (i := 3) (pc := 32) (ls' := [some (.ref a_0), some (.int i_1), some (.int i_2), some (.int i7)]) dM_as_32 rfl (by decide) rfl ?_
  refine v_iload_n (i := 3) (pc := 33) dM_as_33 rfl rfl ?_
  refine v_if_ge (pc := 34) (tgt := 41) dM_as_34 rfl hf (fun hf => ?_) (fun hf => ?_)
  rotate_left
  · refine v_iload_n (i := 3) (pc := 37) dM_as_37 rfl rfl ?_
    refine v_goto (pc := 38) (tgt := 67) dM_as_38 rfl ?_
    exact v_iret (pc := 67) dM_as_67 (by decide) (by decide) hf
  refine v_aload_n (i := 0) (pc := 41) dM_as_41 rfl rfl ?_
  refine v_iload_n (i := 1) (pc := 42) dM_as_42 rfl rfl ?_
  obtain ⟨u20, cu20, hf⟩ := bnd hf
  obtain ⟨h8, i9, e19, hf⟩ := bndp hf
  refine v_M1 (pc := 43) (As := [.int i_1]) (rest := []) lmM_126 cu20 (sM_kindOf e19) ⟨Nat.le_of_ble_eq_true rfl, Nat.le_of_ble_eq_true rfl, Nat.le_of_ble_eq_true rfl, Nat.le_of_ble_eq_true rfl⟩ dM_as_43 rfl rfl (Nat.le_of_ble_eq_true rfl) ?_
  refine v_iload_n (i := 2) (pc := 46) dM_as_46 rfl rfl ?_
  obtain ⟨h10, i11, e18, hf⟩ := bndp hf
  refine v_S1 (pc := 47) (As := [.int i9, .int i_2]) (rest := []) lsM_152 (sM_isOf e18) ⟨Nat.le_of_ble_eq_true rfl, Nat.le_of_ble_eq_true rfl, Nat.le_of_ble_eq_true rfl, Nat.le_of_ble_eq_true rfl⟩ dM_as_47 rfl rfl (Nat.le_of_ble_eq_true rfl) ?_
  refine v_if_eq (pc := 50) (tgt := 62) dM_as_50 rfl hf (fun hf => ?_) (fun hf => ?_)
  · refine v_aload_n (i := 0) (pc := 62) dM_as_62 rfl rfl ?_
    refine v_iconst (pc := 63) (3:Int32) dM_as_63 rfl ?_
    obtain ⟨u15, cu15, hf⟩ := bnd hf
    obtain ⟨h12, i13, e14, hf⟩ := bndp hf
    refine v_M1 (pc := 64) (As := [.int (3:Int32)]) (rest := []) lmM_119 cu15 (sM_found e14) ⟨Nat.le_of_ble_eq_true rfl, Nat.le_of_ble_eq_true rfl, Nat.le_of_ble_eq_true rfl, Nat.le_of_ble_eq_true rfl⟩ dM_as_64 rfl rfl (Nat.le_of_ble_eq_true rfl) ?_
    exact v_iret (pc := 67) dM_as_67 (by decide) (by decide) hf
  refine v_aload_n (i := 0) (pc := 53) dM_as_53 rfl rfl ?_
  refine v_getR (pc := 54) fgM_37 dM_as_54 hf (fun a16 hf => ?_)
  refine v_iload_n (i := 1) (pc := 57) dM_as_57 rfl rfl ?_
  refine v_iald (pc := 58) dM_as_58 hf (fun i17 hf => ?_)
  refine v_goto (pc := 59) (tgt := 67) dM_as_59 rfl ?_
  exact v_iret (pc := 67) dM_as_67 (by decide) (by decide) hf
abbrev rmM_began : Room := { frames := 0, cells := 0, slots := 0, locals := 0 }
def fM_began (h : MH) (a_0 : Nat) (i_1 : Int32) : Option MH := ((gfI h a_0 [12] 13).bind fun i1 => (if (16:Int32) ≤ i1 then (some h) else ((gfR h a_0 [12] 12).bind fun a2 => ((gfI h a_0 [12] 13).bind fun i3 => ((wrI h a2 i3 i_1).bind fun h4 => ((gfI h4 a_0 [12] 13).bind fun i5 => ((pf h4 a_0 [12] 13 (.int (i5 + (1:Int32)))).bind fun h6 => (some h6))))))))
set_option maxRecDepth 20000 in
set_option maxHeartbeats 4000000 in
theorem sM_began {g : Gh} {h' : MH} {h : MH} {a_0 : Nat} {i_1 : Int32} (hf : fM_began h a_0 i_1 = some h') : Sp g yM_began cM_began 2 none rmM_began h [.ref a_0, .int i_1] h' none := by
  refine sp_of (by decide) (Nat.le_of_ble_eq_true rfl) ?_
  change V g yM_began cM_began 2 none rmM_began (ZQ g rmM_began h' none) 0 0 h 0 [some (.ref a_0), some (.int i_1)] []
  unfold fM_began at hf
  refine v_aload_n (i := 0) (pc := 0) dM_began_0 rfl rfl ?_
  refine v_getI (pc := 1) fgM_156 dM_began_1 hf (fun i1 hf => ?_)
  refine v_bipush (pc := 4) (16:Int32) dM_began_4 rfl ?_
  refine v_icmp_ge (pc := 6) (tgt := 29) dM_began_6 rfl hf (fun hf => ?_) (fun hf => ?_)
  · exact v_vret (pc := 29) dM_began_29 (by decide) (by decide) hf
  refine v_aload_n (i := 0) (pc := 9) dM_began_9 rfl rfl ?_
  refine v_getR (pc := 10) fgM_46 dM_began_10 hf (fun a2 hf => ?_)
  refine v_aload_n (i := 0) (pc := 13) dM_began_13 rfl rfl ?_
  refine v_getI (pc := 14) fgM_156 dM_began_14 hf (fun i3 hf => ?_)
  refine v_iload_n (i := 1) (pc := 17) dM_began_17 rfl rfl ?_
  refine v_iast (pc := 18) dM_began_18 hf (fun h4 hf => ?_)
  refine v_aload_n (i := 0) (pc := 19) dM_began_19 rfl rfl ?_
  refine v_dup (pc := 20) dM_began_20 rfl ?_
  refine v_getI (pc := 21) fgM_156 dM_began_21 hf (fun i5 hf => ?_)
  refine v_iconst (pc := 24) (1:Int32) dM_began_24 rfl ?_
  refine v_iadd (pc := 25) dM_began_25 ?_
  refine v_put (pc := 26) fpM_156 (fun _ => ⟨rfl, rfl⟩) dM_began_26 hf (fun h6 hf => ?_)
  exact v_vret (pc := 29) dM_began_29 (by decide) (by decide) hf
abbrev rmM_sized : Room := { frames := 1, cells := 0, slots := 0, locals := 21 }
def fM_sized_51 (n : Nat) (h : MH) (s0 : Int32) (s1 : Int32) (x2 : Int32) : Option (MH × Int32) := (if x2 = (2:Int32) then (some (h, ((2:Int32) * (s1 + s0)))) else (some (h, (s1 + s0))))
set_option maxRecDepth 20000 in
set_option maxHeartbeats 4000000 in
theorem tM_sized_51 {g : Gh} {h' : MH} {r' : Int32} (n : Nat) (h : MH) (s0 : Int32) (s1 : Int32) (x2 : Int32) (hf : fM_sized_51 n h s0 s1 x2 = some (h', r')) : V g yM_sized cM_sized 4 (some .int) rmM_sized (ZQ g rmM_sized h' (some (.int r'))) 0 0 h 51 [none, none, some (.int x2), none] [.int s0, .int s1] := by
  unfold fM_sized_51 at hf
  refine v_iadd (pc := 51) dM_sized_51 ?_
  refine v_istore_n (i := 3) (pc := 52) (ls' := [none, none, some (.int x2), some (.int (s1 + s0))]) dM_sized_52 rfl (by decide) rfl ?_
  refine v_iload_n (i := 2) (pc := 53) dM_sized_53 rfl rfl ?_
  refine v_iconst (pc := 54) (2:Int32) dM_sized_54 rfl ?_
  refine v_icmp_ne (pc := 55) (tgt := 64) dM_sized_55 rfl hf (fun hf => ?_) (fun hf => ?_)
  rotate_left
  · refine v_iload_n (i := 3) (pc := 64) dM_sized_64 rfl rfl ?_
    exact v_iret (pc := 65) dM_sized_65 (by decide) (by decide) hf
  refine v_iconst (pc := 58) (2:Int32) dM_sized_58 rfl ?_
  refine v_iload_n (i := 3) (pc := 59) dM_sized_59 rfl rfl ?_
  refine v_imul (pc := 60) dM_sized_60 ?_
  refine v_goto (pc := 61) (tgt := 65) dM_sized_61 rfl ?_
  exact v_iret (pc := 65) dM_sized_65 (by decide) (by decide) hf
def fM_sized_25 (n : Nat) (h : MH) (x0 : Nat) (x1 : Int32) (x2 : Int32) : Option (MH × Int32) := ((chk h x0 12).bind fun _ => ((fM_began h x0 (10:Int32)).bind fun h1 => ((gfR h1 x0 [12] 9).bind fun a2 => ((rdI h1 a2 x1).bind fun i3 => (bnd2 (fM_isOf n h1 x2 (1:Int32)) fun h4 i5 => (if i5 = (0:Int32) then (fM_sized_51 n h4 (0:Int32) i3 x2) else (fM_sized_51 n h4 (100:Int32) i3 x2)))))))
set_option maxRecDepth 20000 in
set_option maxHeartbeats 4000000 in
theorem tM_sized_25 {g : Gh} {h' : MH} {r' : Int32} (n : Nat) (h : MH) (x0 : Nat) (x1 : Int32) (x2 : Int32) (hf : fM_sized_25 n h x0 x1 x2 = some (h', r')) : V g yM_sized cM_sized 4 (some .int) rmM_sized (ZQ g rmM_sized h' (some (.int r'))) 0 0 h 25 [some (.ref x0), some (.int x1), some (.int x2), none] [] := by
  unfold fM_sized_25 at hf
  refine v_aload_n (i := 0) (pc := 25) dM_sized_25 rfl rfl ?_
  refine v_bipush (pc := 26) (10:Int32) dM_sized_26 rfl ?_
  obtain ⟨u8, cu8, hf⟩ := bnd hf
  obtain ⟨h1, e7, hf⟩ := bnd hf
  refine v_M0 (pc := 28) (As := [.int (10:Int32)]) (rest := []) lmM_159 cu8 (sM_began e7) ⟨Nat.le_of_ble_eq_true rfl, Nat.le_of_ble_eq_true rfl, Nat.le_of_ble_eq_true rfl, Nat.le_of_ble_eq_true rfl⟩ dM_sized_28 rfl rfl (Nat.le_of_ble_eq_true rfl) ?_
  refine v_aload_n (i := 0) (pc := 31) dM_sized_31 rfl rfl ?_
  refine v_getR (pc := 32) fgM_37 dM_sized_32 hf (fun a2 hf => ?_)
  refine v_iload_n (i := 1) (pc := 35) dM_sized_35 rfl rfl ?_
  refine v_iald (pc := 36) dM_sized_36 hf (fun i3 hf => ?_)
  refine v_iload_n (i := 2) (pc := 37) dM_sized_37 rfl rfl ?_
  refine v_iconst (pc := 38) (1:Int32) dM_sized_38 rfl ?_
  obtain ⟨h4, i5, e6, hf⟩ := bndp hf
  refine v_S1 (pc := 39) (As := [.int x2, .int (1:Int32)]) (rest := [.int i3]) lsM_152 (sM_isOf e6) ⟨Nat.le_of_ble_eq_true rfl, Nat.le_of_ble_eq_true rfl, Nat.le_of_ble_eq_true rfl, Nat.le_of_ble_eq_true rfl⟩ dM_sized_39 rfl rfl (Nat.le_of_ble_eq_true rfl) ?_
  refine v_if_eq (pc := 42) (tgt := 50) dM_sized_42 rfl hf (fun hf => ?_) (fun hf => ?_)
  · refine v_iconst (pc := 50) (0:Int32) dM_sized_50 rfl ?_
    refine v_wk (ls' := [none, none, some (.int x2), none]) ⟨rfl, trivial⟩ ?_
    exact tM_sized_51 n h4 (0:Int32) i3 x2 hf
  refine v_bipush (pc := 45) (100:Int32) dM_sized_45 rfl ?_
  refine v_goto (pc := 47) (tgt := 51) dM_sized_47 rfl ?_
  refine v_wk (ls' := [none, none, some (.int x2), none]) ⟨rfl, trivial⟩ ?_
  exact tM_sized_51 n h4 (100:Int32) i3 x2 hf
def fM_sized_11 (n : Nat) (h : MH) (x0 : Nat) (x1 : Int32) (x2 : Int32) : Option (MH × Int32) := (bnd2 (fM_isOf n h x2 (1:Int32)) fun h1 i2 => (if i2 = (0:Int32) then (fM_sized_25 n h1 x0 x1 x2) else ((chk h1 x0 12).bind fun _ => ((fM_began h1 x0 (11:Int32)).bind fun h3 => (fM_sized_25 n h3 x0 x1 x2)))))
set_option maxRecDepth 20000 in
set_option maxHeartbeats 4000000 in
theorem tM_sized_11 {g : Gh} {h' : MH} {r' : Int32} (n : Nat) (h : MH) (x0 : Nat) (x1 : Int32) (x2 : Int32) (hf : fM_sized_11 n h x0 x1 x2 = some (h', r')) : V g yM_sized cM_sized 4 (some .int) rmM_sized (ZQ g rmM_sized h' (some (.int r'))) 0 0 h 11 [some (.ref x0), some (.int x1), some (.int x2), none] [] := by
  unfold fM_sized_11 at hf
  refine v_iload_n (i := 2) (pc := 11) dM_sized_11 rfl rfl ?_
  refine v_iconst (pc := 12) (1:Int32) dM_sized_12 rfl ?_
  obtain ⟨h1, i2, e6, hf⟩ := bndp hf
  refine v_S1 (pc := 13) (As := [.int x2, .int (1:Int32)]) (rest := []) lsM_152 (sM_isOf e6) ⟨Nat.le_of_ble_eq_true rfl, Nat.le_of_ble_eq_true rfl, Nat.le_of_ble_eq_true rfl, Nat.le_of_ble_eq_true rfl⟩ dM_sized_13 rfl rfl (Nat.le_of_ble_eq_true rfl) ?_
  refine v_if_eq (pc := 16) (tgt := 25) dM_sized_16 rfl hf (fun hf => ?_) (fun hf => ?_)
  · refine v_wk (ls' := [some (.ref x0), some (.int x1), some (.int x2), none]) ⟨rfl, rfl, rfl, trivial⟩ ?_
    exact tM_sized_25 n h1 x0 x1 x2 hf
  refine v_aload_n (i := 0) (pc := 19) dM_sized_19 rfl rfl ?_
  refine v_bipush (pc := 20) (11:Int32) dM_sized_20 rfl ?_
  obtain ⟨u5, cu5, hf⟩ := bnd hf
  obtain ⟨h3, e4, hf⟩ := bnd hf
  refine v_M0 (pc := 22) (As := [.int (11:Int32)]) (rest := []) lmM_159 cu5 (sM_began e4) ⟨Nat.le_of_ble_eq_true rfl, Nat.le_of_ble_eq_true rfl, Nat.le_of_ble_eq_true rfl, Nat.le_of_ble_eq_true rfl⟩ dM_sized_22 rfl rfl (Nat.le_of_ble_eq_true rfl) ?_
  refine v_wk (ls' := [some (.ref x0), some (.int x1), some (.int x2), none]) ⟨rfl, rfl, rfl, trivial⟩ ?_
  exact tM_sized_25 n h3 x0 x1 x2 hf
def fM_sized (n : Nat) (h : MH) (a_0 : Nat) (i_1 : Int32) (i_2 : Int32) : Option (MH × Int32) := (if i_2 = (2:Int32) then ((chk h a_0 12).bind fun _ => ((fM_began h a_0 (12:Int32)).bind fun h1 => (fM_sized_11 n h1 a_0 i_1 i_2))) else (fM_sized_11 n h a_0 i_1 i_2))
set_option maxRecDepth 20000 in
set_option maxHeartbeats 4000000 in
theorem sM_sized {g : Gh} {h' : MH} {r' : Int32} {n : Nat} {h : MH} {a_0 : Nat} {i_1 : Int32} {i_2 : Int32} (hf : fM_sized n h a_0 i_1 i_2 = some (h', r')) : Sp g yM_sized cM_sized 4 (some .int) rmM_sized h [.ref a_0, .int i_1, .int i_2] h' (some (.int r')) := by
  refine sp_of (by decide) (Nat.le_of_ble_eq_true rfl) ?_
  change V g yM_sized cM_sized 4 (some .int) rmM_sized (ZQ g rmM_sized h' (some (.int r'))) 0 0 h 0 [some (.ref a_0), some (.int i_1), some (.int i_2), none] []
  unfold fM_sized at hf
  refine v_iload_n (i := 2) (pc := 0) dM_sized_0 rfl rfl ?_
  refine v_iconst (pc := 1) (2:Int32) dM_sized_1 rfl ?_
  refine v_icmp_ne (pc := 2) (tgt := 11) dM_sized_2 rfl hf (fun hf => ?_) (fun hf => ?_)
  rotate_left
  · refine v_wk (ls' := [some (.ref a_0), some (.int i_1), some (.int i_2), none]) ⟨rfl, rfl, rfl, trivial⟩ ?_
    exact tM_sized_11 n h a_0 i_1 i_2 hf
  refine v_aload_n (i := 0) (pc := 5) dM_sized_5 rfl rfl ?_
  refine v_bipush (pc := 6) (12:Int32) dM_sized_6 rfl ?_
  obtain ⟨u3, cu3, hf⟩ := bnd hf
  obtain ⟨h1, e2, hf⟩ := bnd hf
  refine v_M0 (pc := 8) (As := [.int (12:Int32)]) (rest := []) lmM_159 cu3 (sM_began e2) ⟨Nat.le_of_ble_eq_true rfl, Nat.le_of_ble_eq_true rfl, Nat.le_of_ble_eq_true rfl, Nat.le_of_ble_eq_true rfl⟩ dM_sized_8 rfl rfl (Nat.le_of_ble_eq_true rfl) ?_
  refine v_wk (ls' := [some (.ref a_0), some (.int i_1), some (.int i_2), none]) ⟨rfl, rfl, rfl, trivial⟩ ?_
  exact tM_sized_11 n h1 a_0 i_1 i_2 hf
abbrev rmM_weightOf : Room := { frames := 0, cells := 0, slots := 0, locals := 0 }
def bM_weightOf_102 (k41 : (MH × Nat × Int32 × Int32 × Int32 × Int32) → Option (MH × Int64)) (k90 : (MH × Nat × Int32 × Int32 × Int32 × Int32 × Int32 × Int32) → Option (MH × Int64)) (n : Nat) (k102 : (MH × Nat × Int32 × Int32 × Int32 × Int32 × Int32 × Int32 × Int64 × Int32) → Option (MH × Int64)) (h : MH) (x0 : Nat) (x1 : Int32) (x2 : Int32) (x3 : Int32) (x4 : Int32) (x5 : Int32) (x6 : Int32) (x7 : Int64) (x9 : Int32) : Option (MH × Int64) := (if x3 ≤ x9 then ((gfR h x0 [12] 14).bind fun a1 => ((gfR h x0 [12] 14).bind fun a2 => ((rdL h a2 (((8:Int32) * x5) + x6)).bind fun j3 => ((gfI h x0 [12] 2).bind fun i4 => (nzL i4.toInt64 ((wrL h a1 (((8:Int32) * x5) + x6) (lrm (j3 * x7) i4.toInt64)).bind fun h5 => (k90 (h5, x0, x1, x2, x3, x4, x5, (x6 + (1:Int32)))))))))) else ((gfR h x0 [12] 10).bind fun a7 => ((rdL h a7 ((((64:Int32) * x1) + ((8:Int32) * x6)) + x9)).bind fun j8 => ((gfR h x0 [12] 14).bind fun a9 => ((rdL h a9 (((8:Int32) * x4) + x9)).bind fun j10 => ((gfI h x0 [12] 2).bind fun i11 => (nzL i11.toInt64 (k102 (h, x0, x1, x2, x3, x4, x5, x6, (lrm (x7 + (j8 * j10)) i11.toInt64), (x9 + (1:Int32)))))))))))
def fM_weightOf_102 (k41 : (MH × Nat × Int32 × Int32 × Int32 × Int32) → Option (MH × Int64)) (k90 : (MH × Nat × Int32 × Int32 × Int32 × Int32 × Int32 × Int32) → Option (MH × Int64)) (n : Nat) (h : MH) (x0 : Nat) (x1 : Int32) (x2 : Int32) (x3 : Int32) (x4 : Int32) (x5 : Int32) (x6 : Int32) (x7 : Int64) (x9 : Int32) : Option (MH × Int64) := lp (fun n k s => bM_weightOf_102 k41 k90 n k s.1 s.2.1 s.2.2.1 s.2.2.2.1 s.2.2.2.2.1 s.2.2.2.2.2.1 s.2.2.2.2.2.2.1 s.2.2.2.2.2.2.2.1 s.2.2.2.2.2.2.2.2.1 s.2.2.2.2.2.2.2.2.2) n (h, x0, x1, x2, x3, x4, x5, x6, x7, x9)
set_option maxRecDepth 20000 in
set_option maxHeartbeats 4000000 in
theorem tM_weightOf_102 {g : Gh} {h' : MH} {r' : Int64} {k41 : (MH × Nat × Int32 × Int32 × Int32 × Int32) → Option (MH × Int64)} {k90 : (MH × Nat × Int32 × Int32 × Int32 × Int32 × Int32 × Int32) → Option (MH × Int64)} (hk41 : ∀ (h : MH) (x0 : Nat) (x1 : Int32) (x2 : Int32) (x3 : Int32) (x4 : Int32), k41 (h, x0, x1, x2, x3, x4) = some (h', r') → V g yM_weightOf cM_weightOf 10 (some .long) rmM_weightOf (ZQ g rmM_weightOf h' (some (.long r'))) 0 0 h 41 [some (.ref x0), some (.int x1), some (.int x2), some (.int x3), some (.int x4), none, none, none, none, none] []) (hk90 : ∀ (h : MH) (x0 : Nat) (x1 : Int32) (x2 : Int32) (x3 : Int32) (x4 : Int32) (x5 : Int32) (x6 : Int32), k90 (h, x0, x1, x2, x3, x4, x5, x6) = some (h', r') → V g yM_weightOf cM_weightOf 10 (some .long) rmM_weightOf (ZQ g rmM_weightOf h' (some (.long r'))) 0 0 h 90 [some (.ref x0), some (.int x1), some (.int x2), some (.int x3), some (.int x4), some (.int x5), some (.int x6), none, none, none] []) (n : Nat) (h : MH) (x0 : Nat) (x1 : Int32) (x2 : Int32) (x3 : Int32) (x4 : Int32) (x5 : Int32) (x6 : Int32) (x7 : Int64) (x9 : Int32) (hf : fM_weightOf_102 k41 k90 n h x0 x1 x2 x3 x4 x5 x6 x7 x9 = some (h', r')) : V g yM_weightOf cM_weightOf 10 (some .long) rmM_weightOf (ZQ g rmM_weightOf h' (some (.long r'))) 0 0 h 102 [some (.ref x0), some (.int x1), some (.int x2), some (.int x3), some (.int x4), some (.int x5), some (.int x6), some (.long x7), none, some (.int x9)] [] := by
  unfold fM_weightOf_102 at hf
  refine lp_ind (P := fun s => V g yM_weightOf cM_weightOf 10 (some .long) rmM_weightOf (ZQ g rmM_weightOf h' (some (.long r'))) 0 0 s.1 102 [some (.ref s.2.1), some (.int s.2.2.1), some (.int s.2.2.2.1), some (.int s.2.2.2.2.1), some (.int s.2.2.2.2.2.1), some (.int s.2.2.2.2.2.2.1), some (.int s.2.2.2.2.2.2.2.1), some (.long s.2.2.2.2.2.2.2.2.1), none, some (.int s.2.2.2.2.2.2.2.2.2)] []) (fun n k102 hk102 s hf => ?_) n (h, x0, x1, x2, x3, x4, x5, x6, x7, x9) hf
  obtain ⟨h, x0, x1, x2, x3, x4, x5, x6, x7, x9⟩ := s
  replace hk102 : ∀ (h : MH) (x0 : Nat) (x1 : Int32) (x2 : Int32) (x3 : Int32) (x4 : Int32) (x5 : Int32) (x6 : Int32) (x7 : Int64) (x9 : Int32), k102 (h, x0, x1, x2, x3, x4, x5, x6, x7, x9) = some (h', r') → V g yM_weightOf cM_weightOf 10 (some .long) rmM_weightOf (ZQ g rmM_weightOf h' (some (.long r'))) 0 0 h 102 [some (.ref x0), some (.int x1), some (.int x2), some (.int x3), some (.int x4), some (.int x5), some (.int x6), some (.long x7), none, some (.int x9)] [] := fun h x0 x1 x2 x3 x4 x5 x6 x7 x9 => hk102 (h, x0, x1, x2, x3, x4, x5, x6, x7, x9)
  replace hf : bM_weightOf_102 k41 k90 n k102 h x0 x1 x2 x3 x4 x5 x6 x7 x9 = some (h', r') := hf
  change V g yM_weightOf cM_weightOf 10 (some .long) rmM_weightOf (ZQ g rmM_weightOf h' (some (.long r'))) 0 0 h 102 [some (.ref x0), some (.int x1), some (.int x2), some (.int x3), some (.int x4), some (.int x5), some (.int x6), some (.long x7), none, some (.int x9)] []
  unfold bM_weightOf_102 at hf
  refine v_iload (pc := 102) dM_weightOf_102 rfl ?_
  refine v_iload_n (i := 3) (pc := 104) dM_weightOf_104 rfl rfl ?_
  refine v_icmp_ge (pc := 105) (tgt := 157) dM_weightOf_105 rfl hf (fun hf => ?_) (fun hf => ?_)
  · refine v_aload_n (i := 0) (pc := 157) dM_weightOf_157 rfl rfl ?_
    refine v_getR (pc := 158) fgM_49 dM_weightOf_158 hf (fun a1 hf => ?_)
    refine v_bipush (pc := 161) (8:Int32) dM_weightOf_161 rfl ?_
    refine v_iload (pc := 163) dM_weightOf_163 rfl ?_
    refine v_imul (pc := 165) dM_weightOf_165 ?_
    refine v_iload (pc := 166) dM_weightOf_166 rfl ?_
    refine v_iadd (pc := 168) dM_weightOf_168 ?_
    refine v_aload_n (i := 0) (pc := 169) dM_weightOf_169 rfl rfl ?_
    refine v_getR (pc := 170) fgM_49 dM_weightOf_170 hf (fun a2 hf => ?_)
    refine v_bipush (pc := 173) (8:Int32) dM_weightOf_173 rfl ?_
    refine v_iload (pc := 175) dM_weightOf_175 rfl ?_
    refine v_imul (pc := 177) dM_weightOf_177 ?_
    refine v_iload (pc := 178) dM_weightOf_178 rfl ?_
    refine v_iadd (pc := 180) dM_weightOf_180 ?_
    refine v_lald (pc := 181) dM_weightOf_181 hf (fun j3 hf => ?_)
    refine v_lload (pc := 182) dM_weightOf_182 rfl ?_
    refine v_lmul (pc := 184) dM_weightOf_184 ?_
    refine v_aload_n (i := 0) (pc := 185) dM_weightOf_185 rfl rfl ?_
    refine v_getI (pc := 186) fgM_80 dM_weightOf_186 hf (fun i4 hf => ?_)
    refine v_i2l (pc := 189) dM_weightOf_189 ?_
    obtain ⟨z6, hf⟩ := nzL_of hf
    refine v_lrem (pc := 190) dM_weightOf_190 z6 ?_
    refine v_last (pc := 191) dM_weightOf_191 hf (fun h5 hf => ?_)
    refine v_iinc (pc := 192) (v := (x6 + (1:Int32))) (ls' := [some (.ref x0), some (.int x1), some (.int x2), some (.int x3), some (.int x4), some (.int x5), some (.int (x6 + (1:Int32))), some (.long x7), none, some (.int x9)]) dM_weightOf_192 rfl rfl (by decide) rfl ?_
    refine v_goto (pc := 195) (tgt := 90) dM_weightOf_195 rfl ?_
    refine v_wk (ls' := [some (.ref x0), some (.int x1), some (.int x2), some (.int x3), some (.int x4), some (.int x5), some (.int (x6 + (1:Int32))), none, none, none]) ⟨rfl, rfl, rfl, rfl, rfl, rfl, rfl, trivial⟩ ?_
    exact hk90 h5 x0 x1 x2 x3 x4 x5 (x6 + (1:Int32)) hf
  refine v_lload (pc := 108) dM_weightOf_108 rfl ?_
  refine v_aload_n (i := 0) (pc := 110) dM_weightOf_110 rfl rfl ?_
  refine v_getR (pc := 111) fgM_40 dM_weightOf_111 hf (fun a7 hf => ?_)
  refine v_bipush (pc := 114) (64:Int32) dM_weightOf_114 rfl ?_
  refine v_iload_n (i := 1) (pc := 116) dM_weightOf_116 rfl rfl ?_
  refine v_imul (pc := 117) dM_weightOf_117 ?_
  refine v_bipush (pc := 118) (8:Int32) dM_weightOf_118 rfl ?_
  refine v_iload (pc := 120) dM_weightOf_120 rfl ?_
  refine v_imul (pc := 122) dM_weightOf_122 ?_
  refine v_iadd (pc := 123) dM_weightOf_123 ?_
  refine v_iload (pc := 124) dM_weightOf_124 rfl ?_
  refine v_iadd (pc := 126) dM_weightOf_126 ?_
  refine v_lald (pc := 127) dM_weightOf_127 hf (fun j8 hf => ?_)
  refine v_aload_n (i := 0) (pc := 128) dM_weightOf_128 rfl rfl ?_
  refine v_getR (pc := 129) fgM_49 dM_weightOf_129 hf (fun a9 hf => ?_)
  refine v_bipush (pc := 132) (8:Int32) dM_weightOf_132 rfl ?_
  refine v_iload (pc := 134) dM_weightOf_134 rfl ?_
  refine v_imul (pc := 136) dM_weightOf_136 ?_
  refine v_iload (pc := 137) dM_weightOf_137 rfl ?_
  refine v_iadd (pc := 139) dM_weightOf_139 ?_
  refine v_lald (pc := 140) dM_weightOf_140 hf (fun j10 hf => ?_)
  refine v_lmul (pc := 141) dM_weightOf_141 ?_
  refine v_ladd (pc := 142) dM_weightOf_142 ?_
  refine v_aload_n (i := 0) (pc := 143) dM_weightOf_143 rfl rfl ?_
  refine v_getI (pc := 144) fgM_80 dM_weightOf_144 hf (fun i11 hf => ?_)
  refine v_i2l (pc := 147) dM_weightOf_147 ?_
  obtain ⟨z12, hf⟩ := nzL_of hf
  refine v_lrem (pc := 148) dM_weightOf_148 z12 ?_
  refine v_lstore (pc := 149) (ls' := [some (.ref x0), some (.int x1), some (.int x2), some (.int x3), some (.int x4), some (.int x5), some (.int x6), some (.long (lrm (x7 + (j8 * j10)) i11.toInt64)), none, some (.int x9)]) dM_weightOf_149 (by decide) rfl ?_
  refine v_iinc (pc := 151) (v := (x9 + (1:Int32))) (ls' := [some (.ref x0), some (.int x1), some (.int x2), some (.int x3), some (.int x4), some (.int x5), some (.int x6), some (.long (lrm (x7 + (j8 * j10)) i11.toInt64)), none, some (.int (x9 + (1:Int32)))]) dM_weightOf_151 rfl rfl (by decide) rfl ?_
  refine v_goto (pc := 154) (tgt := 102) dM_weightOf_154 rfl ?_
  refine v_wk (ls' := [some (.ref x0), some (.int x1), some (.int x2), some (.int x3), some (.int x4), some (.int x5), some (.int x6), some (.long (lrm (x7 + (j8 * j10)) i11.toInt64)), none, some (.int (x9 + (1:Int32)))]) ⟨rfl, rfl, rfl, rfl, rfl, rfl, rfl, rfl, rfl, trivial⟩ ?_
  exact hk102 h x0 x1 x2 x3 x4 x5 x6 (lrm (x7 + (j8 * j10)) i11.toInt64) (x9 + (1:Int32)) hf
def bM_weightOf_90 (k41 : (MH × Nat × Int32 × Int32 × Int32 × Int32) → Option (MH × Int64)) (n : Nat) (k90 : (MH × Nat × Int32 × Int32 × Int32 × Int32 × Int32 × Int32) → Option (MH × Int64)) (h : MH) (x0 : Nat) (x1 : Int32) (x2 : Int32) (x3 : Int32) (x4 : Int32) (x5 : Int32) (x6 : Int32) : Option (MH × Int64) := (if x3 ≤ x6 then (k41 (h, x0, x1, x2, x3, (x4 + (-1:Int32)))) else (fM_weightOf_102 k41 k90 n h x0 x1 x2 x3 x4 x5 x6 (0:Int64) (0:Int32)))
def fM_weightOf_90 (k41 : (MH × Nat × Int32 × Int32 × Int32 × Int32) → Option (MH × Int64)) (n : Nat) (h : MH) (x0 : Nat) (x1 : Int32) (x2 : Int32) (x3 : Int32) (x4 : Int32) (x5 : Int32) (x6 : Int32) : Option (MH × Int64) := lp (fun n k s => bM_weightOf_90 k41 n k s.1 s.2.1 s.2.2.1 s.2.2.2.1 s.2.2.2.2.1 s.2.2.2.2.2.1 s.2.2.2.2.2.2.1 s.2.2.2.2.2.2.2) n (h, x0, x1, x2, x3, x4, x5, x6)
set_option maxRecDepth 20000 in
set_option maxHeartbeats 4000000 in
theorem tM_weightOf_90 {g : Gh} {h' : MH} {r' : Int64} {k41 : (MH × Nat × Int32 × Int32 × Int32 × Int32) → Option (MH × Int64)} (hk41 : ∀ (h : MH) (x0 : Nat) (x1 : Int32) (x2 : Int32) (x3 : Int32) (x4 : Int32), k41 (h, x0, x1, x2, x3, x4) = some (h', r') → V g yM_weightOf cM_weightOf 10 (some .long) rmM_weightOf (ZQ g rmM_weightOf h' (some (.long r'))) 0 0 h 41 [some (.ref x0), some (.int x1), some (.int x2), some (.int x3), some (.int x4), none, none, none, none, none] []) (n : Nat) (h : MH) (x0 : Nat) (x1 : Int32) (x2 : Int32) (x3 : Int32) (x4 : Int32) (x5 : Int32) (x6 : Int32) (hf : fM_weightOf_90 k41 n h x0 x1 x2 x3 x4 x5 x6 = some (h', r')) : V g yM_weightOf cM_weightOf 10 (some .long) rmM_weightOf (ZQ g rmM_weightOf h' (some (.long r'))) 0 0 h 90 [some (.ref x0), some (.int x1), some (.int x2), some (.int x3), some (.int x4), some (.int x5), some (.int x6), none, none, none] [] := by
  unfold fM_weightOf_90 at hf
  refine lp_ind (P := fun s => V g yM_weightOf cM_weightOf 10 (some .long) rmM_weightOf (ZQ g rmM_weightOf h' (some (.long r'))) 0 0 s.1 90 [some (.ref s.2.1), some (.int s.2.2.1), some (.int s.2.2.2.1), some (.int s.2.2.2.2.1), some (.int s.2.2.2.2.2.1), some (.int s.2.2.2.2.2.2.1), some (.int s.2.2.2.2.2.2.2), none, none, none] []) (fun n k90 hk90 s hf => ?_) n (h, x0, x1, x2, x3, x4, x5, x6) hf
  obtain ⟨h, x0, x1, x2, x3, x4, x5, x6⟩ := s
  replace hk90 : ∀ (h : MH) (x0 : Nat) (x1 : Int32) (x2 : Int32) (x3 : Int32) (x4 : Int32) (x5 : Int32) (x6 : Int32), k90 (h, x0, x1, x2, x3, x4, x5, x6) = some (h', r') → V g yM_weightOf cM_weightOf 10 (some .long) rmM_weightOf (ZQ g rmM_weightOf h' (some (.long r'))) 0 0 h 90 [some (.ref x0), some (.int x1), some (.int x2), some (.int x3), some (.int x4), some (.int x5), some (.int x6), none, none, none] [] := fun h x0 x1 x2 x3 x4 x5 x6 => hk90 (h, x0, x1, x2, x3, x4, x5, x6)
  replace hf : bM_weightOf_90 k41 n k90 h x0 x1 x2 x3 x4 x5 x6 = some (h', r') := hf
  change V g yM_weightOf cM_weightOf 10 (some .long) rmM_weightOf (ZQ g rmM_weightOf h' (some (.long r'))) 0 0 h 90 [some (.ref x0), some (.int x1), some (.int x2), some (.int x3), some (.int x4), some (.int x5), some (.int x6), none, none, none] []
  unfold bM_weightOf_90 at hf
  refine v_iload (pc := 90) dM_weightOf_90 rfl ?_
  refine v_iload_n (i := 3) (pc := 92) dM_weightOf_92 rfl rfl ?_
  refine v_icmp_ge (pc := 93) (tgt := 198) dM_weightOf_93 rfl hf (fun hf => ?_) (fun hf => ?_)
  · refine v_iinc (pc := 198) (v := (x4 + (-1:Int32))) (ls' := [some (.ref x0), some (.int x1), some (.int x2), some (.int x3), some (.int (x4 + (-1:Int32))), some (.int x5), some (.int x6), none, none, none]) dM_weightOf_198 rfl rfl (by decide) rfl ?_
    refine v_goto (pc := 201) (tgt := 41) dM_weightOf_201 rfl ?_
    refine v_wk (ls' := [some (.ref x0), some (.int x1), some (.int x2), some (.int x3), some (.int (x4 + (-1:Int32))), none, none, none, none, none]) ⟨rfl, rfl, rfl, rfl, rfl, trivial⟩ ?_
    exact hk41 h x0 x1 x2 x3 (x4 + (-1:Int32)) hf
  refine v_lconst (pc := 96) (0:Int64) dM_weightOf_96 rfl ?_
  refine v_lstore (pc := 97) (ls' := [some (.ref x0), some (.int x1), some (.int x2), some (.int x3), some (.int x4), some (.int x5), some (.int x6), some (.long (0:Int64)), none, none]) dM_weightOf_97 (by decide) rfl ?_
  refine v_iconst (pc := 99) (0:Int32) dM_weightOf_99 rfl ?_
  refine v_istore (pc := 100) (ls' := [some (.ref x0), some (.int x1), some (.int x2), some (.int x3), some (.int x4), some (.int x5), some (.int x6), some (.long (0:Int64)), none, some (.int (0:Int32))]) dM_weightOf_100 (by decide) rfl ?_
  refine v_wk (ls' := [some (.ref x0), some (.int x1), some (.int x2), some (.int x3), some (.int x4), some (.int x5), some (.int x6), some (.long (0:Int64)), none, some (.int (0:Int32))]) ⟨rfl, rfl, rfl, rfl, rfl, rfl, rfl, rfl, rfl, trivial⟩ ?_
  exact tM_weightOf_102 hk41 hk90 n h x0 x1 x2 x3 x4 x5 x6 (0:Int64) (0:Int32) hf
def bM_weightOf_52 (k41 : (MH × Nat × Int32 × Int32 × Int32 × Int32) → Option (MH × Int64)) (n : Nat) (k52 : (MH × Nat × Int32 × Int32 × Int32 × Int32 × Int32) → Option (MH × Int64)) (h : MH) (x0 : Nat) (x1 : Int32) (x2 : Int32) (x3 : Int32) (x4 : Int32) (x5 : Int32) : Option (MH × Int64) := ((gfR h x0 [12] 4).bind fun a1 => ((rdI h a1 (((6:Int32) * x2) + x5)).bind fun i2 => ((gfR h x0 [12] 4).bind fun a3 => ((rdI h a3 (((6:Int32) * x2) + x4)).bind fun i4 => (if i2 = (i4 - (1:Int32)) then (fM_weightOf_90 k41 n h x0 x1 x2 x3 x4 x5 (0:Int32)) else (k52 (h, x0, x1, x2, x3, x4, (x5 + (-1:Int32)))))))))
def fM_weightOf_52 (k41 : (MH × Nat × Int32 × Int32 × Int32 × Int32) → Option (MH × Int64)) (n : Nat) (h : MH) (x0 : Nat) (x1 : Int32) (x2 : Int32) (x3 : Int32) (x4 : Int32) (x5 : Int32) : Option (MH × Int64) := lp (fun n k s => bM_weightOf_52 k41 n k s.1 s.2.1 s.2.2.1 s.2.2.2.1 s.2.2.2.2.1 s.2.2.2.2.2.1 s.2.2.2.2.2.2) n (h, x0, x1, x2, x3, x4, x5)
set_option maxRecDepth 20000 in
set_option maxHeartbeats 4000000 in
theorem tM_weightOf_52 {g : Gh} {h' : MH} {r' : Int64} {k41 : (MH × Nat × Int32 × Int32 × Int32 × Int32) → Option (MH × Int64)} (hk41 : ∀ (h : MH) (x0 : Nat) (x1 : Int32) (x2 : Int32) (x3 : Int32) (x4 : Int32), k41 (h, x0, x1, x2, x3, x4) = some (h', r') → V g yM_weightOf cM_weightOf 10 (some .long) rmM_weightOf (ZQ g rmM_weightOf h' (some (.long r'))) 0 0 h 41 [some (.ref x0), some (.int x1), some (.int x2), some (.int x3), some (.int x4), none, none, none, none, none] []) (n : Nat) (h : MH) (x0 : Nat) (x1 : Int32) (x2 : Int32) (x3 : Int32) (x4 : Int32) (x5 : Int32) (hf : fM_weightOf_52 k41 n h x0 x1 x2 x3 x4 x5 = some (h', r')) : V g yM_weightOf cM_weightOf 10 (some .long) rmM_weightOf (ZQ g rmM_weightOf h' (some (.long r'))) 0 0 h 52 [some (.ref x0), some (.int x1), some (.int x2), some (.int x3), some (.int x4), some (.int x5), none, none, none, none] [] := by
  unfold fM_weightOf_52 at hf
  refine lp_ind (P := fun s => V g yM_weightOf cM_weightOf 10 (some .long) rmM_weightOf (ZQ g rmM_weightOf h' (some (.long r'))) 0 0 s.1 52 [some (.ref s.2.1), some (.int s.2.2.1), some (.int s.2.2.2.1), some (.int s.2.2.2.2.1), some (.int s.2.2.2.2.2.1), some (.int s.2.2.2.2.2.2), none, none, none, none] []) (fun n k52 hk52 s hf => ?_) n (h, x0, x1, x2, x3, x4, x5) hf
  obtain ⟨h, x0, x1, x2, x3, x4, x5⟩ := s
  replace hk52 : ∀ (h : MH) (x0 : Nat) (x1 : Int32) (x2 : Int32) (x3 : Int32) (x4 : Int32) (x5 : Int32), k52 (h, x0, x1, x2, x3, x4, x5) = some (h', r') → V g yM_weightOf cM_weightOf 10 (some .long) rmM_weightOf (ZQ g rmM_weightOf h' (some (.long r'))) 0 0 h 52 [some (.ref x0), some (.int x1), some (.int x2), some (.int x3), some (.int x4), some (.int x5), none, none, none, none] [] := fun h x0 x1 x2 x3 x4 x5 => hk52 (h, x0, x1, x2, x3, x4, x5)
  replace hf : bM_weightOf_52 k41 n k52 h x0 x1 x2 x3 x4 x5 = some (h', r') := hf
  change V g yM_weightOf cM_weightOf 10 (some .long) rmM_weightOf (ZQ g rmM_weightOf h' (some (.long r'))) 0 0 h 52 [some (.ref x0), some (.int x1), some (.int x2), some (.int x3), some (.int x4), some (.int x5), none, none, none, none] []
  unfold bM_weightOf_52 at hf
  refine v_aload_n (i := 0) (pc := 52) dM_weightOf_52 rfl rfl ?_
  refine v_getR (pc := 53) fgM_21 dM_weightOf_53 hf (fun a1 hf => ?_)
  refine v_bipush (pc := 56) (6:Int32) dM_weightOf_56 rfl ?_
  refine v_iload_n (i := 2) (pc := 58) dM_weightOf_58 rfl rfl ?_
  refine v_imul (pc := 59) dM_weightOf_59 ?_
  refine v_iload (pc := 60) dM_weightOf_60 rfl ?_
  refine v_iadd (pc := 62) dM_weightOf_62 ?_
  refine v_iald (pc := 63) dM_weightOf_63 hf (fun i2 hf => ?_)
  refine v_aload_n (i := 0) (pc := 64) dM_weightOf_64 rfl rfl ?_
  refine v_getR (pc := 65) fgM_21 dM_weightOf_65 hf (fun a3 hf => ?_)
  refine v_bipush (pc := 68) (6:Int32) dM_weightOf_68 rfl ?_
  refine v_iload_n (i := 2) (pc := 70) dM_weightOf_70 rfl rfl ?_
  refine v_imul (pc := 71) dM_weightOf_71 ?_
  refine v_iload (pc := 72) dM_weightOf_72 rfl ?_
  refine v_iadd (pc := 74) dM_weightOf_74 ?_
  refine v_iald (pc := 75) dM_weightOf_75 hf (fun i4 hf => ?_)
  refine v_iconst (pc := 76) (1:Int32) dM_weightOf_76 rfl ?_
  refine v_isub (pc := 77) dM_weightOf_77 ?_
  refine v_icmp_eq (pc := 78) (tgt := 87) dM_weightOf_78 rfl hf (fun hf => ?_) (fun hf => ?_)
  · refine v_iconst (pc := 87) (0:Int32) dM_weightOf_87 rfl ?_
    refine v_istore (pc := 88) (ls' := [some (.ref x0), some (.int x1), some (.int x2), some (.int x3), some (.int x4), some (.int x5), some (.int (0:Int32)), none, none, none]) dM_weightOf_88 (by decide) rfl ?_
    refine v_wk (ls' := [some (.ref x0), some (.int x1), some (.int x2), some (.int x3), some (.int x4), some (.int x5), some (.int (0:Int32)), none, none, none]) ⟨rfl, rfl, rfl, rfl, rfl, rfl, rfl, trivial⟩ ?_
    exact tM_weightOf_90 hk41 n h x0 x1 x2 x3 x4 x5 (0:Int32) hf
  refine v_iinc (pc := 81) (v := (x5 + (-1:Int32))) (ls' := [some (.ref x0), some (.int x1), some (.int x2), some (.int x3), some (.int x4), some (.int (x5 + (-1:Int32))), none, none, none, none]) dM_weightOf_81 rfl rfl (by decide) rfl ?_
  refine v_goto (pc := 84) (tgt := 52) dM_weightOf_84 rfl ?_
  refine v_wk (ls' := [some (.ref x0), some (.int x1), some (.int x2), some (.int x3), some (.int x4), some (.int (x5 + (-1:Int32))), none, none, none, none]) ⟨rfl, rfl, rfl, rfl, rfl, rfl, trivial⟩ ?_
  exact hk52 h x0 x1 x2 x3 x4 (x5 + (-1:Int32)) hf
def bM_weightOf_210 (n : Nat) (k210 : (MH × Nat × Int32 × Int32 × Int64 × Int32) → Option (MH × Int64)) (h : MH) (x0 : Nat) (x1 : Int32) (x3 : Int32) (x4 : Int64) (x6 : Int32) : Option (MH × Int64) := (if x3 ≤ x6 then (some (h, x4)) else ((gfR h x0 [12] 11).bind fun a1 => ((rdL h a1 (((8:Int32) * x1) + x6)).bind fun j2 => ((gfR h x0 [12] 14).bind fun a3 => ((rdL h a3 x6).bind fun j4 => ((gfI h x0 [12] 2).bind fun i5 => (nzL i5.toInt64 (k210 (h, x0, x1, x3, (lrm (x4 + (j2 * j4)) i5.toInt64), (x6 + (1:Int32)))))))))))
def fM_weightOf_210 (n : Nat) (h : MH) (x0 : Nat) (x1 : Int32) (x3 : Int32) (x4 : Int64) (x6 : Int32) : Option (MH × Int64) := lp (fun n k s => bM_weightOf_210 n k s.1 s.2.1 s.2.2.1 s.2.2.2.1 s.2.2.2.2.1 s.2.2.2.2.2) n (h, x0, x1, x3, x4, x6)
set_option maxRecDepth 20000 in
set_option maxHeartbeats 4000000 in
theorem tM_weightOf_210 {g : Gh} {h' : MH} {r' : Int64} (n : Nat) (h : MH) (x0 : Nat) (x1 : Int32) (x3 : Int32) (x4 : Int64) (x6 : Int32) (hf : fM_weightOf_210 n h x0 x1 x3 x4 x6 = some (h', r')) : V g yM_weightOf cM_weightOf 10 (some .long) rmM_weightOf (ZQ g rmM_weightOf h' (some (.long r'))) 0 0 h 210 [some (.ref x0), some (.int x1), none, some (.int x3), some (.long x4), none, some (.int x6), none, none, none] [] := by
  unfold fM_weightOf_210 at hf
  refine lp_ind (P := fun s => V g yM_weightOf cM_weightOf 10 (some .long) rmM_weightOf (ZQ g rmM_weightOf h' (some (.long r'))) 0 0 s.1 210 [some (.ref s.2.1), some (.int s.2.2.1), none, some (.int s.2.2.2.1), some (.long s.2.2.2.2.1), none, some (.int s.2.2.2.2.2), none, none, none] []) (fun n k210 hk210 s hf => ?_) n (h, x0, x1, x3, x4, x6) hf
  obtain ⟨h, x0, x1, x3, x4, x6⟩ := s
  replace hk210 : ∀ (h : MH) (x0 : Nat) (x1 : Int32) (x3 : Int32) (x4 : Int64) (x6 : Int32), k210 (h, x0, x1, x3, x4, x6) = some (h', r') → V g yM_weightOf cM_weightOf 10 (some .long) rmM_weightOf (ZQ g rmM_weightOf h' (some (.long r'))) 0 0 h 210 [some (.ref x0), some (.int x1), none, some (.int x3), some (.long x4), none, some (.int x6), none, none, none] [] := fun h x0 x1 x3 x4 x6 => hk210 (h, x0, x1, x3, x4, x6)
  replace hf : bM_weightOf_210 n k210 h x0 x1 x3 x4 x6 = some (h', r') := hf
  change V g yM_weightOf cM_weightOf 10 (some .long) rmM_weightOf (ZQ g rmM_weightOf h' (some (.long r'))) 0 0 h 210 [some (.ref x0), some (.int x1), none, some (.int x3), some (.long x4), none, some (.int x6), none, none, none] []
  unfold bM_weightOf_210 at hf
  refine v_iload (pc := 210) dM_weightOf_210 rfl ?_
  refine v_iload_n (i := 3) (pc := 212) dM_weightOf_212 rfl rfl ?_
  refine v_icmp_ge (pc := 213) (tgt := 253) dM_weightOf_213 rfl hf (fun hf => ?_) (fun hf => ?_)
  · refine v_lload (pc := 253) dM_weightOf_253 rfl ?_
    exact v_lret (pc := 255) dM_weightOf_255 (by decide) (by decide) hf
  refine v_lload (pc := 216) dM_weightOf_216 rfl ?_
  refine v_aload_n (i := 0) (pc := 218) dM_weightOf_218 rfl rfl ?_
  refine v_getR (pc := 219) fgM_43 dM_weightOf_219 hf (fun a1 hf => ?_)
  refine v_bipush (pc := 222) (8:Int32) dM_weightOf_222 rfl ?_
  refine v_iload_n (i := 1) (pc := 224) dM_weightOf_224 rfl rfl ?_
  refine v_imul (pc := 225) dM_weightOf_225 ?_
  refine v_iload (pc := 226) dM_weightOf_226 rfl ?_
  refine v_iadd (pc := 228) dM_weightOf_228 ?_
  refine v_lald (pc := 229) dM_weightOf_229 hf (fun j2 hf => ?_)
  refine v_aload_n (i := 0) (pc := 230) dM_weightOf_230 rfl rfl ?_
  refine v_getR (pc := 231) fgM_49 dM_weightOf_231 hf (fun a3 hf => ?_)
  refine v_iload (pc := 234) dM_weightOf_234 rfl ?_
  refine v_lald (pc := 236) dM_weightOf_236 hf (fun j4 hf => ?_)
  refine v_lmul (pc := 237) dM_weightOf_237 ?_
  refine v_ladd (pc := 238) dM_weightOf_238 ?_
  refine v_aload_n (i := 0) (pc := 239) dM_weightOf_239 rfl rfl ?_
  refine v_getI (pc := 240) fgM_80 dM_weightOf_240 hf (fun i5 hf => ?_)
  refine v_i2l (pc := 243) dM_weightOf_243 ?_
  obtain ⟨z6, hf⟩ := nzL_of hf
  refine v_lrem (pc := 244) dM_weightOf_244 z6 ?_
  refine v_lstore (pc := 245) (ls' := [some (.ref x0), some (.int x1), none, some (.int x3), some (.long (lrm (x4 + (j2 * j4)) i5.toInt64)), none, some (.int x6), none, none, none]) dM_weightOf_245 (by decide) rfl ?_
  refine v_iinc (pc := 247) (v := (x6 + (1:Int32))) (ls' := [some (.ref x0), some (.int x1), none, some (.int x3), some (.long (lrm (x4 + (j2 * j4)) i5.toInt64)), none, some (.int (x6 + (1:Int32))), none, none, none]) dM_weightOf_247 rfl rfl (by decide) rfl ?_
  refine v_goto (pc := 250) (tgt := 210) dM_weightOf_250 rfl ?_
  refine v_wk (ls' := [some (.ref x0), some (.int x1), none, some (.int x3), some (.long (lrm (x4 + (j2 * j4)) i5.toInt64)), none, some (.int (x6 + (1:Int32))), none, none, none]) ⟨rfl, rfl, rfl, rfl, rfl, trivial⟩ ?_
  exact hk210 h x0 x1 x3 (lrm (x4 + (j2 * j4)) i5.toInt64) (x6 + (1:Int32)) hf
def bM_weightOf_41 (n : Nat) (k41 : (MH × Nat × Int32 × Int32 × Int32 × Int32) → Option (MH × Int64)) (h : MH) (x0 : Nat) (x1 : Int32) (x2 : Int32) (x3 : Int32) (x4 : Int32) : Option (MH × Int64) := (if x4 ≤ (0:Int32) then (fM_weightOf_210 n h x0 x1 x3 (0:Int64) (0:Int32)) else (fM_weightOf_52 k41 n h x0 x1 x2 x3 x4 (x4 - (1:Int32))))
def fM_weightOf_41 (n : Nat) (h : MH) (x0 : Nat) (x1 : Int32) (x2 : Int32) (x3 : Int32) (x4 : Int32) : Option (MH × Int64) := lp (fun n k s => bM_weightOf_41 n k s.1 s.2.1 s.2.2.1 s.2.2.2.1 s.2.2.2.2.1 s.2.2.2.2.2) n (h, x0, x1, x2, x3, x4)
set_option maxRecDepth 20000 in
set_option maxHeartbeats 4000000 in
theorem tM_weightOf_41 {g : Gh} {h' : MH} {r' : Int64} (n : Nat) (h : MH) (x0 : Nat) (x1 : Int32) (x2 : Int32) (x3 : Int32) (x4 : Int32) (hf : fM_weightOf_41 n h x0 x1 x2 x3 x4 = some (h', r')) : V g yM_weightOf cM_weightOf 10 (some .long) rmM_weightOf (ZQ g rmM_weightOf h' (some (.long r'))) 0 0 h 41 [some (.ref x0), some (.int x1), some (.int x2), some (.int x3), some (.int x4), none, none, none, none, none] [] := by
  unfold fM_weightOf_41 at hf
  refine lp_ind (P := fun s => V g yM_weightOf cM_weightOf 10 (some .long) rmM_weightOf (ZQ g rmM_weightOf h' (some (.long r'))) 0 0 s.1 41 [some (.ref s.2.1), some (.int s.2.2.1), some (.int s.2.2.2.1), some (.int s.2.2.2.2.1), some (.int s.2.2.2.2.2), none, none, none, none, none] []) (fun n k41 hk41 s hf => ?_) n (h, x0, x1, x2, x3, x4) hf
  obtain ⟨h, x0, x1, x2, x3, x4⟩ := s
  replace hk41 : ∀ (h : MH) (x0 : Nat) (x1 : Int32) (x2 : Int32) (x3 : Int32) (x4 : Int32), k41 (h, x0, x1, x2, x3, x4) = some (h', r') → V g yM_weightOf cM_weightOf 10 (some .long) rmM_weightOf (ZQ g rmM_weightOf h' (some (.long r'))) 0 0 h 41 [some (.ref x0), some (.int x1), some (.int x2), some (.int x3), some (.int x4), none, none, none, none, none] [] := fun h x0 x1 x2 x3 x4 => hk41 (h, x0, x1, x2, x3, x4)
  replace hf : bM_weightOf_41 n k41 h x0 x1 x2 x3 x4 = some (h', r') := hf
  change V g yM_weightOf cM_weightOf 10 (some .long) rmM_weightOf (ZQ g rmM_weightOf h' (some (.long r'))) 0 0 h 41 [some (.ref x0), some (.int x1), some (.int x2), some (.int x3), some (.int x4), none, none, none, none, none] []
  unfold bM_weightOf_41 at hf
  refine v_iload (pc := 41) dM_weightOf_41 rfl ?_
  refine v_if_le (pc := 43) (tgt := 204) dM_weightOf_43 rfl hf (fun hf => ?_) (fun hf => ?_)
  · refine v_lconst (pc := 204) (0:Int64) dM_weightOf_204 rfl ?_
    refine v_lstore (pc := 205) (ls' := [some (.ref x0), some (.int x1), some (.int x2), some (.int x3), some (.long (0:Int64)), none, none, none, none, none]) dM_weightOf_205 (by decide) rfl ?_
    refine v_iconst (pc := 207) (0:Int32) dM_weightOf_207 rfl ?_
    refine v_istore (pc := 208) (ls' := [some (.ref x0), some (.int x1), some (.int x2), some (.int x3), some (.long (0:Int64)), none, some (.int (0:Int32)), none, none, none]) dM_weightOf_208 (by decide) rfl ?_
    refine v_wk (ls' := [some (.ref x0), some (.int x1), none, some (.int x3), some (.long (0:Int64)), none, some (.int (0:Int32)), none, none, none]) ⟨rfl, rfl, rfl, rfl, rfl, trivial⟩ ?_
    exact tM_weightOf_210 n h x0 x1 x3 (0:Int64) (0:Int32) hf
  refine v_iload (pc := 46) dM_weightOf_46 rfl ?_
  refine v_iconst (pc := 48) (1:Int32) dM_weightOf_48 rfl ?_
  refine v_isub (pc := 49) dM_weightOf_49 ?_
  refine v_istore (pc := 50) (ls' := [some (.ref x0), some (.int x1), some (.int x2), some (.int x3), some (.int x4), some (.int (x4 - (1:Int32))), none, none, none, none]) dM_weightOf_50 (by decide) rfl ?_
  refine v_wk (ls' := [some (.ref x0), some (.int x1), some (.int x2), some (.int x3), some (.int x4), some (.int (x4 - (1:Int32))), none, none, none, none]) ⟨rfl, rfl, rfl, rfl, rfl, rfl, trivial⟩ ?_
  exact tM_weightOf_52 hk41 n h x0 x1 x2 x3 x4 (x4 - (1:Int32)) hf
def bM_weightOf_10 (n : Nat) (k10 : (MH × Nat × Int32 × Int32 × Int32 × Int32) → Option (MH × Int64)) (h : MH) (x0 : Nat) (x1 : Int32) (x2 : Int32) (x3 : Int32) (x4 : Int32) : Option (MH × Int64) := (if (48:Int32) ≤ x4 then ((gfR h x0 [12] 3).bind fun a1 => ((rdI h a1 x2).bind fun i2 => (fM_weightOf_41 n h x0 x1 x2 x3 (i2 - (1:Int32))))) else ((gfR h x0 [12] 14).bind fun a3 => ((wrL h a3 x4 (1:Int64)).bind fun h4 => (k10 (h4, x0, x1, x2, x3, (x4 + (1:Int32)))))))
def fM_weightOf_10 (n : Nat) (h : MH) (x0 : Nat) (x1 : Int32) (x2 : Int32) (x3 : Int32) (x4 : Int32) : Option (MH × Int64) := lp (fun n k s => bM_weightOf_10 n k s.1 s.2.1 s.2.2.1 s.2.2.2.1 s.2.2.2.2.1 s.2.2.2.2.2) n (h, x0, x1, x2, x3, x4)
set_option maxRecDepth 20000 in
set_option maxHeartbeats 4000000 in
theorem tM_weightOf_10 {g : Gh} {h' : MH} {r' : Int64} (n : Nat) (h : MH) (x0 : Nat) (x1 : Int32) (x2 : Int32) (x3 : Int32) (x4 : Int32) (hf : fM_weightOf_10 n h x0 x1 x2 x3 x4 = some (h', r')) : V g yM_weightOf cM_weightOf 10 (some .long) rmM_weightOf (ZQ g rmM_weightOf h' (some (.long r'))) 0 0 h 10 [some (.ref x0), some (.int x1), some (.int x2), some (.int x3), some (.int x4), none, none, none, none, none] [] := by
  unfold fM_weightOf_10 at hf
  refine lp_ind (P := fun s => V g yM_weightOf cM_weightOf 10 (some .long) rmM_weightOf (ZQ g rmM_weightOf h' (some (.long r'))) 0 0 s.1 10 [some (.ref s.2.1), some (.int s.2.2.1), some (.int s.2.2.2.1), some (.int s.2.2.2.2.1), some (.int s.2.2.2.2.2), none, none, none, none, none] []) (fun n k10 hk10 s hf => ?_) n (h, x0, x1, x2, x3, x4) hf
  obtain ⟨h, x0, x1, x2, x3, x4⟩ := s
  replace hk10 : ∀ (h : MH) (x0 : Nat) (x1 : Int32) (x2 : Int32) (x3 : Int32) (x4 : Int32), k10 (h, x0, x1, x2, x3, x4) = some (h', r') → V g yM_weightOf cM_weightOf 10 (some .long) rmM_weightOf (ZQ g rmM_weightOf h' (some (.long r'))) 0 0 h 10 [some (.ref x0), some (.int x1), some (.int x2), some (.int x3), some (.int x4), none, none, none, none, none] [] := fun h x0 x1 x2 x3 x4 => hk10 (h, x0, x1, x2, x3, x4)
  replace hf : bM_weightOf_10 n k10 h x0 x1 x2 x3 x4 = some (h', r') := hf
  change V g yM_weightOf cM_weightOf 10 (some .long) rmM_weightOf (ZQ g rmM_weightOf h' (some (.long r'))) 0 0 h 10 [some (.ref x0), some (.int x1), some (.int x2), some (.int x3), some (.int x4), none, none, none, none, none] []
  unfold bM_weightOf_10 at hf
  refine v_iload (pc := 10) dM_weightOf_10 rfl ?_
  refine v_bipush (pc := 12) (48:Int32) dM_weightOf_12 rfl ?_
  refine v_icmp_ge (pc := 14) (tgt := 31) dM_weightOf_14 rfl hf (fun hf => ?_) (fun hf => ?_)
  · refine v_aload_n (i := 0) (pc := 31) dM_weightOf_31 rfl rfl ?_
    refine v_getR (pc := 32) fgM_17 dM_weightOf_32 hf (fun a1 hf => ?_)
    refine v_iload_n (i := 2) (pc := 35) dM_weightOf_35 rfl rfl ?_
    refine v_iald (pc := 36) dM_weightOf_36 hf (fun i2 hf => ?_)
    refine v_iconst (pc := 37) (1:Int32) dM_weightOf_37 rfl ?_
    refine v_isub (pc := 38) dM_weightOf_38 ?_
    refine v_istore (pc := 39) (ls' := [some (.ref x0), some (.int x1), some (.int x2), some (.int x3), some (.int (i2 - (1:Int32))), none, none, none, none, none]) dM_weightOf_39 (by decide) rfl ?_
    refine v_wk (ls' := [some (.ref x0), some (.int x1), some (.int x2), some (.int x3), some (.int (i2 - (1:Int32))), none, none, none, none, none]) ⟨rfl, rfl, rfl, rfl, rfl, trivial⟩ ?_
    exact tM_weightOf_41 n h x0 x1 x2 x3 (i2 - (1:Int32)) hf
  refine v_aload_n (i := 0) (pc := 17) dM_weightOf_17 rfl rfl ?_
  refine v_getR (pc := 18) fgM_49 dM_weightOf_18 hf (fun a3 hf => ?_)
  refine v_iload (pc := 21) dM_weightOf_21 rfl ?_
  refine v_lconst (pc := 23) (1:Int64) dM_weightOf_23 rfl ?_
  refine v_last (pc := 24) dM_weightOf_24 hf (fun h4 hf => ?_)
  refine v_iinc (pc := 25) (v := (x4 + (1:Int32))) (ls' := [some (.ref x0), some (.int x1), some (.int x2), some (.int x3), some (.int (x4 + (1:Int32))), none, none, none, none, none]) dM_weightOf_25 rfl rfl (by decide) rfl ?_
  refine v_goto (pc := 28) (tgt := 10) dM_weightOf_28 rfl ?_
  refine v_wk (ls' := [some (.ref x0), some (.int x1), some (.int x2), some (.int x3), some (.int (x4 + (1:Int32))), none, none, none, none, none]) ⟨rfl, rfl, rfl, rfl, rfl, trivial⟩ ?_
  exact hk10 h4 x0 x1 x2 x3 (x4 + (1:Int32)) hf
def fM_weightOf (n : Nat) (h : MH) (a_0 : Nat) (i_1 : Int32) (i_2 : Int32) : Option (MH × Int64) := ((gfR h a_0 [12] 9).bind fun a1 => ((rdI h a1 i_1).bind fun i2 => (fM_weightOf_10 n h a_0 i_1 i_2 i2 (0:Int32))))
set_option maxRecDepth 20000 in
set_option maxHeartbeats 4000000 in
theorem sM_weightOf {g : Gh} {h' : MH} {r' : Int64} {n : Nat} {h : MH} {a_0 : Nat} {i_1 : Int32} {i_2 : Int32} (hf : fM_weightOf n h a_0 i_1 i_2 = some (h', r')) : Sp g yM_weightOf cM_weightOf 10 (some .long) rmM_weightOf h [.ref a_0, .int i_1, .int i_2] h' (some (.long r')) := by
  refine sp_of (by decide) (Nat.le_of_ble_eq_true rfl) ?_
  change V g yM_weightOf cM_weightOf 10 (some .long) rmM_weightOf (ZQ g rmM_weightOf h' (some (.long r'))) 0 0 h 0 [some (.ref a_0), some (.int i_1), some (.int i_2), none, none, none, none, none, none, none] []
  unfold fM_weightOf at hf
  refine v_aload_n (i := 0) (pc := 0) dM_weightOf_0 rfl rfl ?_
  refine v_getR (pc := 1) fgM_37 dM_weightOf_1 hf (fun a1 hf => ?_)
  refine v_iload_n (i := 1) (pc := 4) dM_weightOf_4 rfl rfl ?_
  refine v_iald (pc := 5) dM_weightOf_5 hf (fun i2 hf => ?_)
  refine v_istore_n (i := 3) (pc := 6) (ls' := [some (.ref a_0), some (.int i_1), some (.int i_2), some (.int i2), none, none, none, none, none, none]) dM_weightOf_6 rfl (by decide) rfl ?_
  refine v_iconst (pc := 7) (0:Int32) dM_weightOf_7 rfl ?_
  refine v_istore (pc := 8) (ls' := [some (.ref a_0), some (.int i_1), some (.int i_2), some (.int i2), some (.int (0:Int32)), none, none, none, none, none]) dM_weightOf_8 (by decide) rfl ?_
  refine v_wk (ls' := [some (.ref a_0), some (.int i_1), some (.int i_2), some (.int i2), some (.int (0:Int32)), none, none, none, none, none]) ⟨rfl, rfl, rfl, rfl, rfl, trivial⟩ ?_
  exact tM_weightOf_10 n h a_0 i_1 i_2 i2 (0:Int32) hf
abbrev rmM_fits : Room := { frames := 2, cells := 0, slots := 0, locals := 46 }
def fM_fits (n : Nat) (h : MH) (a_0 : Nat) (i_1 : Int32) (i_2 : Int32) : Option (MH × Int32) := ((chk h a_0 12).bind fun _ => (bnd2 (fM_weightOf n h a_0 i_1 i_2) fun h1 j2 => ((chk h1 a_0 12).bind fun _ => (bnd2 (fM_density n h1 a_0 i_2) fun h3 i4 => ((gfI h3 a_0 [12] 2).bind fun i5 => (nzL i5.toInt64 (if (lrm (j2 * i4.toInt64) i5.toInt64) = (1:Int64) then (retZ h3 (1:Int32)) else (retZ h3 (0:Int32)))))))))
set_option maxRecDepth 20000 in
set_option maxHeartbeats 4000000 in
theorem sM_fits {g : Gh} {h' : MH} {r' : Int32} {n : Nat} {h : MH} {a_0 : Nat} {i_1 : Int32} {i_2 : Int32} (hf : fM_fits n h a_0 i_1 i_2 = some (h', r')) : Sp g yM_fits cM_fits 3 (some .boolean) rmM_fits h [.ref a_0, .int i_1, .int i_2] h' (some (.int r')) := by
  refine sp_of (by decide) (Nat.le_of_ble_eq_true rfl) ?_
  change V g yM_fits cM_fits 3 (some .boolean) rmM_fits (ZQ g rmM_fits h' (some (.int r'))) 0 0 h 0 [some (.ref a_0), some (.int i_1), some (.int i_2)] []
  unfold fM_fits at hf
  refine v_aload_n (i := 0) (pc := 0) dM_fits_0 rfl rfl ?_
  refine v_iload_n (i := 1) (pc := 1) dM_fits_1 rfl rfl ?_
  refine v_iload_n (i := 2) (pc := 2) dM_fits_2 rfl rfl ?_
  obtain ⟨u10, cu10, hf⟩ := bnd hf
  obtain ⟨h1, j2, e9, hf⟩ := bndp hf
  refine v_M1 (pc := 3) (As := [.int i_1, .int i_2]) (rest := []) lmM_168 cu10 (sM_weightOf e9) ⟨Nat.le_of_ble_eq_true rfl, Nat.le_of_ble_eq_true rfl, Nat.le_of_ble_eq_true rfl, Nat.le_of_ble_eq_true rfl⟩ dM_fits_3 rfl rfl (Nat.le_of_ble_eq_true rfl) ?_
  refine v_aload_n (i := 0) (pc := 6) dM_fits_6 rfl rfl ?_
  refine v_iload_n (i := 2) (pc := 7) dM_fits_7 rfl rfl ?_
  obtain ⟨u8, cu8, hf⟩ := bnd hf
  obtain ⟨h3, i4, e7, hf⟩ := bndp hf
  refine v_M1 (pc := 8) (As := [.int i_2]) (rest := [.long j2]) lmM_105 cu8 (sM_density e7) ⟨Nat.le_of_ble_eq_true rfl, Nat.le_of_ble_eq_true rfl, Nat.le_of_ble_eq_true rfl, Nat.le_of_ble_eq_true rfl⟩ dM_fits_8 rfl rfl (Nat.le_of_ble_eq_true rfl) ?_
  refine v_i2l (pc := 11) dM_fits_11 ?_
  refine v_lmul (pc := 12) dM_fits_12 ?_
  refine v_aload_n (i := 0) (pc := 13) dM_fits_13 rfl rfl ?_
  refine v_getI (pc := 14) fgM_80 dM_fits_14 hf (fun i5 hf => ?_)
  refine v_i2l (pc := 17) dM_fits_17 ?_
  obtain ⟨z6, hf⟩ := nzL_of hf
  refine v_lrem (pc := 18) dM_fits_18 z6 ?_
  refine v_lconst (pc := 19) (1:Int64) dM_fits_19 rfl ?_
  refine v_lcmp_ne (pc := 20) (tgt := 28) dM_fits_20 dM_fits_21 rfl hf (fun hf => ?_) (fun hf => ?_)
  rotate_left
  · refine v_iconst (pc := 28) (0:Int32) dM_fits_28 rfl ?_
    exact v_zret (pc := 29) dM_fits_29 (by decide) (by decide) hf
  refine v_iconst (pc := 24) (1:Int32) dM_fits_24 rfl ?_
  refine v_goto (pc := 25) (tgt := 29) dM_fits_25 rfl ?_
  exact v_zret (pc := 29) dM_fits_29 (by decide) (by decide) hf
abbrev rmM_firstNot : Room := { frames := 3, cells := 0, slots := 0, locals := 68 }
def bM_firstNot_2 (n : Nat) (k2 : (MH × Nat × Int32 × Int32) → Option (MH × Int32)) (h : MH) (x0 : Nat) (x1 : Int32) (x2 : Int32) : Option (MH × Int32) := (if (37:Int32) ≤ x2 then (some (h, (-1000000:Int32))) else ((chk h x0 12).bind fun _ => (bnd2 (fM_fits n h x0 x1 x2) fun h1 i2 => (if i2 = (0:Int32) then (some (h1, x2)) else (k2 (h1, x0, x1, (x2 + (1:Int32))))))))
def fM_firstNot_2 (n : Nat) (h : MH) (x0 : Nat) (x1 : Int32) (x2 : Int32) : Option (MH × Int32) := lp (fun n k s => bM_firstNot_2 n k s.1 s.2.1 s.2.2.1 s.2.2.2) n (h, x0, x1, x2)
set_option maxRecDepth 20000 in
set_option maxHeartbeats 4000000 in
theorem tM_firstNot_2 {g : Gh} {h' : MH} {r' : Int32} (n : Nat) (h : MH) (x0 : Nat) (x1 : Int32) (x2 : Int32) (hf : fM_firstNot_2 n h x0 x1 x2 = some (h', r')) : V g yM_firstNot cM_firstNot 3 (some .int) rmM_firstNot (ZQ g rmM_firstNot h' (some (.int r'))) 0 0 h 2 [some (.ref x0), some (.int x1), some (.int x2)] [] := by
  unfold fM_firstNot_2 at hf
  refine lp_ind (P := fun s => V g yM_firstNot cM_firstNot 3 (some .int) rmM_firstNot (ZQ g rmM_firstNot h' (some (.int r'))) 0 0 s.1 2 [some (.ref s.2.1), some (.int s.2.2.1), some (.int s.2.2.2)] []) (fun n k2 hk2 s hf => ?_) n (h, x0, x1, x2) hf
  obtain ⟨h, x0, x1, x2⟩ := s
  replace hk2 : ∀ (h : MH) (x0 : Nat) (x1 : Int32) (x2 : Int32), k2 (h, x0, x1, x2) = some (h', r') → V g yM_firstNot cM_firstNot 3 (some .int) rmM_firstNot (ZQ g rmM_firstNot h' (some (.int r'))) 0 0 h 2 [some (.ref x0), some (.int x1), some (.int x2)] [] := fun h x0 x1 x2 => hk2 (h, x0, x1, x2)
  replace hf : bM_firstNot_2 n k2 h x0 x1 x2 = some (h', r') := hf
  change V g yM_firstNot cM_firstNot 3 (some .int) rmM_firstNot (ZQ g rmM_firstNot h' (some (.int r'))) 0 0 h 2 [some (.ref x0), some (.int x1), some (.int x2)] []
  unfold bM_firstNot_2 at hf
  refine v_iload_n (i := 2) (pc := 2) dM_firstNot_2 rfl rfl ?_
  refine v_bipush (pc := 3) (37:Int32) dM_firstNot_3 rfl ?_
  refine v_icmp_ge (pc := 5) (tgt := 25) dM_firstNot_5 rfl hf (fun hf => ?_) (fun hf => ?_)
  · refine v_ldc (pc := 25) dM_firstNot_25 kiM_95 ?_
    exact v_iret (pc := 27) dM_firstNot_27 (by decide) (by decide) hf
  refine v_aload_n (i := 0) (pc := 8) dM_firstNot_8 rfl rfl ?_
  refine v_iload_n (i := 1) (pc := 9) dM_firstNot_9 rfl rfl ?_
  refine v_iload_n (i := 2) (pc := 10) dM_firstNot_10 rfl rfl ?_
  obtain ⟨u4, cu4, hf⟩ := bnd hf
  obtain ⟨h1, i2, e3, hf⟩ := bndp hf
  refine v_M1 (pc := 11) (As := [.int x1, .int x2]) (rest := []) lmM_172 cu4 (sM_fits e3) ⟨Nat.le_of_ble_eq_true rfl, Nat.le_of_ble_eq_true rfl, Nat.le_of_ble_eq_true rfl, Nat.le_of_ble_eq_true rfl⟩ dM_firstNot_11 rfl rfl (Nat.le_of_ble_eq_true rfl) ?_
  refine v_if_ne (pc := 14) (tgt := 19) dM_firstNot_14 rfl hf (fun hf => ?_) (fun hf => ?_)
  · refine v_iload_n (i := 2) (pc := 17) dM_firstNot_17 rfl rfl ?_
    exact v_iret (pc := 18) dM_firstNot_18 (by decide) (by decide) hf
  refine v_iinc (pc := 19) (v := (x2 + (1:Int32))) (ls' := [some (.ref x0), some (.int x1), some (.int (x2 + (1:Int32)))]) dM_firstNot_19 rfl rfl (by decide) rfl ?_
  refine v_goto (pc := 22) (tgt := 2) dM_firstNot_22 rfl ?_
  refine v_wk (ls' := [some (.ref x0), some (.int x1), some (.int (x2 + (1:Int32)))]) ⟨rfl, rfl, rfl, trivial⟩ ?_
  exact hk2 h1 x0 x1 (x2 + (1:Int32)) hf
def fM_firstNot (n : Nat) (h : MH) (a_0 : Nat) (i_1 : Int32) : Option (MH × Int32) := (fM_firstNot_2 n h a_0 i_1 (0:Int32))
set_option maxRecDepth 20000 in
set_option maxHeartbeats 4000000 in
theorem sM_firstNot {g : Gh} {h' : MH} {r' : Int32} {n : Nat} {h : MH} {a_0 : Nat} {i_1 : Int32} (hf : fM_firstNot n h a_0 i_1 = some (h', r')) : Sp g yM_firstNot cM_firstNot 3 (some .int) rmM_firstNot h [.ref a_0, .int i_1] h' (some (.int r')) := by
  refine sp_of (by decide) (Nat.le_of_ble_eq_true rfl) ?_
  change V g yM_firstNot cM_firstNot 3 (some .int) rmM_firstNot (ZQ g rmM_firstNot h' (some (.int r'))) 0 0 h 0 [some (.ref a_0), some (.int i_1), none] []
  unfold fM_firstNot at hf
  refine v_iconst (pc := 0) (0:Int32) dM_firstNot_0 rfl ?_
  refine v_istore_n (i := 2) (pc := 1) (ls' := [some (.ref a_0), some (.int i_1), some (.int (0:Int32))]) dM_firstNot_1 rfl (by decide) rfl ?_
  refine v_wk (ls' := [some (.ref a_0), some (.int i_1), some (.int (0:Int32))]) ⟨rfl, rfl, rfl, trivial⟩ ?_
  exact tM_firstNot_2 n h a_0 i_1 (0:Int32) hf
abbrev rmM_orderOf : Room := { frames := 4, cells := 0, slots := 0, locals := 90 }
def fM_orderOf (n : Nat) (h : MH) (a_0 : Nat) (i_1 : Int32) : Option (MH × Int32) := ((chk h a_0 12).bind fun _ => (bnd2 (fM_firstNot n h a_0 i_1) fun h1 i2 => (if i2 = (-1000000:Int32) then (some (h1, (6:Int32))) else ((gfR h1 a_0 [12] 3).bind fun a3 => ((rdI h1 a3 i2).bind fun i4 => (some (h1, (i4 - (1:Int32)))))))))
set_option maxRecDepth 20000 in
set_option maxHeartbeats 4000000 in
theorem sM_orderOf {g : Gh} {h' : MH} {r' : Int32} {n : Nat} {h : MH} {a_0 : Nat} {i_1 : Int32} (hf : fM_orderOf n h a_0 i_1 = some (h', r')) : Sp g yM_orderOf cM_orderOf 3 (some .int) rmM_orderOf h [.ref a_0, .int i_1] h' (some (.int r')) := by
  refine sp_of (by decide) (Nat.le_of_ble_eq_true rfl) ?_
  change V g yM_orderOf cM_orderOf 3 (some .int) rmM_orderOf (ZQ g rmM_orderOf h' (some (.int r'))) 0 0 h 0 [some (.ref a_0), some (.int i_1), none] []
  unfold fM_orderOf at hf
  refine v_aload_n (i := 0) (pc := 0) dM_orderOf_0 rfl rfl ?_
  refine v_iload_n (i := 1) (pc := 1) dM_orderOf_1 rfl rfl ?_
  obtain ⟨u6, cu6, hf⟩ := bnd hf
  obtain ⟨h1, i2, e5, hf⟩ := bndp hf
  refine v_M1 (pc := 2) (As := [.int i_1]) (rest := []) lmM_175 cu6 (sM_firstNot e5) ⟨Nat.le_of_ble_eq_true rfl, Nat.le_of_ble_eq_true rfl, Nat.le_of_ble_eq_true rfl, Nat.le_of_ble_eq_true rfl⟩ dM_orderOf_2 rfl rfl (Nat.le_of_ble_eq_true rfl) ?_
  refine v_istore_n (i := 2) (pc := 5) (ls' := [some (.ref a_0), some (.int i_1), some (.int i2)]) dM_orderOf_5 rfl (by decide) rfl ?_
  refine v_iload_n (i := 2) (pc := 6) dM_orderOf_6 rfl rfl ?_
  refine v_ldc (pc := 7) dM_orderOf_7 kiM_95 ?_
  refine v_icmp_ne (pc := 9) (tgt := 17) dM_orderOf_9 rfl hf (fun hf => ?_) (fun hf => ?_)
  · refine v_bipush (pc := 12) (6:Int32) dM_orderOf_12 rfl ?_
    refine v_goto (pc := 14) (tgt := 25) dM_orderOf_14 rfl ?_
    exact v_iret (pc := 25) dM_orderOf_25 (by decide) (by decide) hf
  refine v_aload_n (i := 0) (pc := 17) dM_orderOf_17 rfl rfl ?_
  refine v_getR (pc := 18) fgM_17 dM_orderOf_18 hf (fun a3 hf => ?_)
  refine v_iload_n (i := 2) (pc := 21) dM_orderOf_21 rfl rfl ?_
  refine v_iald (pc := 22) dM_orderOf_22 hf (fun i4 hf => ?_)
  refine v_iconst (pc := 23) (1:Int32) dM_orderOf_23 rfl ?_
  refine v_isub (pc := 24) dM_orderOf_24 ?_
  exact v_iret (pc := 25) dM_orderOf_25 (by decide) (by decide) hf
abbrev rmM_ask : Room := { frames := 5, cells := 0, slots := 0, locals := 112 }
def fM_ask_77 (n : Nat) (h : MH) (x0 : Nat) (x1 : Int32) (x5 : Int32) : Option (MH × Int32) := ((chk h x0 12).bind fun _ => ((fM_began h x0 (22:Int32)).bind fun h1 => ((chk h1 x0 12).bind fun _ => ((fM_began h1 x0 (20:Int32)).bind fun h2 => ((chk h2 x0 12).bind fun _ => (bnd2 (fM_orderOf n h2 x0 x1) fun h3 i4 => (some (h3, ((x5 + i4) + (10:Int32))))))))))
set_option maxRecDepth 20000 in
set_option maxHeartbeats 4000000 in
theorem tM_ask_77 {g : Gh} {h' : MH} {r' : Int32} (n : Nat) (h : MH) (x0 : Nat) (x1 : Int32) (x5 : Int32) (hf : fM_ask_77 n h x0 x1 x5 = some (h', r')) : V g yM_ask cM_ask 6 (some .int) rmM_ask (ZQ g rmM_ask h' (some (.int r'))) 0 0 h 77 [some (.ref x0), some (.int x1), none, none, none, some (.int x5)] [] := by
  unfold fM_ask_77 at hf
  refine v_aload_n (i := 0) (pc := 77) dM_ask_77 rfl rfl ?_
  refine v_bipush (pc := 78) (22:Int32) dM_ask_78 rfl ?_
  obtain ⟨u10, cu10, hf⟩ := bnd hf
  obtain ⟨h1, e9, hf⟩ := bnd hf
  refine v_M0 (pc := 80) (As := [.int (22:Int32)]) (rest := []) lmM_159 cu10 (sM_began e9) ⟨Nat.le_of_ble_eq_true rfl, Nat.le_of_ble_eq_true rfl, Nat.le_of_ble_eq_true rfl, Nat.le_of_ble_eq_true rfl⟩ dM_ask_80 rfl rfl (Nat.le_of_ble_eq_true rfl) ?_
  refine v_aload_n (i := 0) (pc := 83) dM_ask_83 rfl rfl ?_
  refine v_bipush (pc := 84) (20:Int32) dM_ask_84 rfl ?_
  obtain ⟨u8, cu8, hf⟩ := bnd hf
  obtain ⟨h2, e7, hf⟩ := bnd hf
  refine v_M0 (pc := 86) (As := [.int (20:Int32)]) (rest := []) lmM_159 cu8 (sM_began e7) ⟨Nat.le_of_ble_eq_true rfl, Nat.le_of_ble_eq_true rfl, Nat.le_of_ble_eq_true rfl, Nat.le_of_ble_eq_true rfl⟩ dM_ask_86 rfl rfl (Nat.le_of_ble_eq_true rfl) ?_
  refine v_iload (pc := 89) dM_ask_89 rfl ?_
  refine v_aload_n (i := 0) (pc := 91) dM_ask_91 rfl rfl ?_
  refine v_iload_n (i := 1) (pc := 92) dM_ask_92 rfl rfl ?_
  obtain ⟨u6, cu6, hf⟩ := bnd hf
  obtain ⟨h3, i4, e5, hf⟩ := bndp hf
  refine v_M1 (pc := 93) (As := [.int x1]) (rest := [.int x5]) lmM_165 cu6 (sM_orderOf e5) ⟨Nat.le_of_ble_eq_true rfl, Nat.le_of_ble_eq_true rfl, Nat.le_of_ble_eq_true rfl, Nat.le_of_ble_eq_true rfl⟩ dM_ask_93 rfl rfl (Nat.le_of_ble_eq_true rfl) ?_
  refine v_iadd (pc := 96) dM_ask_96 ?_
  refine v_bipush (pc := 97) (10:Int32) dM_ask_97 rfl ?_
  refine v_iadd (pc := 99) dM_ask_99 ?_
  exact v_iret (pc := 100) dM_ask_100 (by decide) (by decide) hf
def fM_ask_128 (n : Nat) (h : MH) (x0 : Nat) (x1 : Int32) (x4 : Int32) : Option (MH × Int32) := ((chk h x0 12).bind fun _ => ((fM_began h x0 (20:Int32)).bind fun h1 => ((chk h1 x0 12).bind fun _ => (bnd2 (fM_orderOf n h1 x0 x1) fun h2 i3 => (bnd2 (fM_isOf n h2 x4 (1:Int32)) fun h4 i5 => (if i5 = (0:Int32) then (some (h4, (i3 + (0:Int32)))) else ((chk h4 x0 12).bind fun _ => (bnd2 (fM_sized n h4 x0 x1 x4) fun h6 i7 => (some (h6, (i3 + i7)))))))))))
set_option maxRecDepth 20000 in
set_option maxHeartbeats 4000000 in
theorem tM_ask_128 {g : Gh} {h' : MH} {r' : Int32} (n : Nat) (h : MH) (x0 : Nat) (x1 : Int32) (x4 : Int32) (hf : fM_ask_128 n h x0 x1 x4 = some (h', r')) : V g yM_ask cM_ask 6 (some .int) rmM_ask (ZQ g rmM_ask h' (some (.int r'))) 0 0 h 128 [some (.ref x0), some (.int x1), none, none, some (.int x4), none] [] := by
  unfold fM_ask_128 at hf
  refine v_aload_n (i := 0) (pc := 128) dM_ask_128 rfl rfl ?_
  refine v_bipush (pc := 129) (20:Int32) dM_ask_129 rfl ?_
  obtain ⟨u14, cu14, hf⟩ := bnd hf
  obtain ⟨h1, e13, hf⟩ := bnd hf
  refine v_M0 (pc := 131) (As := [.int (20:Int32)]) (rest := []) lmM_159 cu14 (sM_began e13) ⟨Nat.le_of_ble_eq_true rfl, Nat.le_of_ble_eq_true rfl, Nat.le_of_ble_eq_true rfl, Nat.le_of_ble_eq_true rfl⟩ dM_ask_131 rfl rfl (Nat.le_of_ble_eq_true rfl) ?_
  refine v_aload_n (i := 0) (pc := 134) dM_ask_134 rfl rfl ?_
  refine v_iload_n (i := 1) (pc := 135) dM_ask_135 rfl rfl ?_
  obtain ⟨u12, cu12, hf⟩ := bnd hf
  obtain ⟨h2, i3, e11, hf⟩ := bndp hf
  refine v_M1 (pc := 136) (As := [.int x1]) (rest := []) lmM_165 cu12 (sM_orderOf e11) ⟨Nat.le_of_ble_eq_true rfl, Nat.le_of_ble_eq_true rfl, Nat.le_of_ble_eq_true rfl, Nat.le_of_ble_eq_true rfl⟩ dM_ask_136 rfl rfl (Nat.le_of_ble_eq_true rfl) ?_
  refine v_iload (pc := 139) dM_ask_139 rfl ?_
  refine v_iconst (pc := 141) (1:Int32) dM_ask_141 rfl ?_
  obtain ⟨h4, i5, e10, hf⟩ := bndp hf
  refine v_S1 (pc := 142) (As := [.int x4, .int (1:Int32)]) (rest := [.int i3]) lsM_152 (sM_isOf e10) ⟨Nat.le_of_ble_eq_true rfl, Nat.le_of_ble_eq_true rfl, Nat.le_of_ble_eq_true rfl, Nat.le_of_ble_eq_true rfl⟩ dM_ask_142 rfl rfl (Nat.le_of_ble_eq_true rfl) ?_
  refine v_if_eq (pc := 145) (tgt := 158) dM_ask_145 rfl hf (fun hf => ?_) (fun hf => ?_)
  · refine v_iconst (pc := 158) (0:Int32) dM_ask_158 rfl ?_
    refine v_iadd (pc := 159) dM_ask_159 ?_
    exact v_iret (pc := 160) dM_ask_160 (by decide) (by decide) hf
  refine v_aload_n (i := 0) (pc := 148) dM_ask_148 rfl rfl ?_
  refine v_iload_n (i := 1) (pc := 149) dM_ask_149 rfl rfl ?_
  refine v_iload (pc := 150) dM_ask_150 rfl ?_
  obtain ⟨u9, cu9, hf⟩ := bnd hf
  obtain ⟨h6, i7, e8, hf⟩ := bndp hf
  refine v_M1 (pc := 152) (As := [.int x1, .int x4]) (rest := [.int i3]) lmM_162 cu9 (sM_sized e8) ⟨Nat.le_of_ble_eq_true rfl, Nat.le_of_ble_eq_true rfl, Nat.le_of_ble_eq_true rfl, Nat.le_of_ble_eq_true rfl⟩ dM_ask_152 rfl rfl (Nat.le_of_ble_eq_true rfl) ?_
  refine v_goto (pc := 155) (tgt := 159) dM_ask_155 rfl ?_
  refine v_iadd (pc := 159) dM_ask_159 ?_
  exact v_iret (pc := 160) dM_ask_160 (by decide) (by decide) hf
def fM_ask (n : Nat) (h : MH) (a_0 : Nat) (i_1 : Int32) (i_2 : Int32) : Option (MH × Int32) := ((pf h a_0 [12] 0 (.int (0:Int32))).bind fun h1 => (bnd2 (fM_isPlace h1 i_1) fun h2 i3 => (if i3 = (0:Int32) then (some (h2, (-1000001:Int32))) else (bnd2 (fM_in h2 i_2.toInt64 (0:Int64) (1:Int64)) fun h4 i5 => (if i5 = (0:Int32) then (some (h4, (-1000001:Int32))) else ((pf h4 a_0 [12] 13 (.int (0:Int32))).bind fun h6 => ((chk h6 a_0 12).bind fun _ => (bnd2 (fM_look h6 a_0 i_1) fun h7 i8 => (if (0:Int32) ≤ i8 then ((chk h7 a_0 12).bind fun _ => (bnd2 (fM_kindOf n h7 a_0 i_1) fun h9 i10 => (if i10 = (3:Int32) then (if i_2 = (0:Int32) then ((chk h9 a_0 12).bind fun _ => ((fM_began h9 a_0 (13:Int32)).bind fun h21 => ((chk h21 a_0 12).bind fun _ => (bnd2 (fM_sized n h21 a_0 i_1 i10) fun h22 i23 => (fM_ask_77 n h22 a_0 i_1 i23))))) else (fM_ask_77 n h9 a_0 i_1 (0:Int32))) else (if i_2 = (0:Int32) then ((chk h9 a_0 12).bind fun _ => (bnd2 (fM_sized n h9 a_0 i_1 i10) fun h17 i18 => (some (h17, i18)))) else (bnd2 (fM_isOf n h9 i10 (1:Int32)) fun h11 i12 => (if i12 = (0:Int32) then (fM_ask_128 n h11 a_0 i_1 i10) else ((chk h11 a_0 12).bind fun _ => ((fM_began h11 a_0 (21:Int32)).bind fun h13 => (fM_ask_128 n h13 a_0 i_1 i10))))))))) else (some (h7, i8)))))))))))
set_option maxRecDepth 20000 in
set_option maxHeartbeats 4000000 in
theorem sM_ask {g : Gh} {h' : MH} {r' : Int32} {n : Nat} {h : MH} {a_0 : Nat} {i_1 : Int32} {i_2 : Int32} (hf : fM_ask n h a_0 i_1 i_2 = some (h', r')) : Sp g yM_ask cM_ask 6 (some .int) rmM_ask h [.ref a_0, .int i_1, .int i_2] h' (some (.int r')) := by
  refine sp_of (by decide) (Nat.le_of_ble_eq_true rfl) ?_
  change V g yM_ask cM_ask 6 (some .int) rmM_ask (ZQ g rmM_ask h' (some (.int r'))) 0 0 h 0 [some (.ref a_0), some (.int i_1), some (.int i_2), none, none, none] []
  unfold fM_ask at hf
  refine v_aload_n (i := 0) (pc := 0) dM_ask_0 rfl rfl ?_
  refine v_iconst (pc := 1) (0:Int32) dM_ask_1 rfl ?_
  refine v_put (pc := 2) fpM_1 (fun _ => ⟨rfl, rfl⟩) dM_ask_2 hf (fun h1 hf => ?_)
  refine v_iload_n (i := 1) (pc := 5) dM_ask_5 rfl rfl ?_
  obtain ⟨h2, i3, e33, hf⟩ := bndp hf
  refine v_S1 (pc := 6) (As := [.int i_1]) (rest := []) lsM_129 (sM_isPlace e33) ⟨Nat.le_of_ble_eq_true rfl, Nat.le_of_ble_eq_true rfl, Nat.le_of_ble_eq_true rfl, Nat.le_of_ble_eq_true rfl⟩ dM_ask_6 rfl rfl (Nat.le_of_ble_eq_true rfl) ?_
  refine v_if_eq (pc := 9) (tgt := 22) dM_ask_9 rfl hf (fun hf => ?_) (fun hf => ?_)
  · refine v_ldc (pc := 22) dM_ask_22 kiM_90 ?_
    exact v_iret (pc := 24) dM_ask_24 (by decide) (by decide) hf
  refine v_iload_n (i := 2) (pc := 12) dM_ask_12 rfl rfl ?_
  refine v_i2l (pc := 13) dM_ask_13 ?_
  refine v_lconst (pc := 14) (0:Int64) dM_ask_14 rfl ?_
  refine v_lconst (pc := 15) (1:Int64) dM_ask_15 rfl ?_
  obtain ⟨h4, i5, e32, hf⟩ := bndp hf
  refine v_S1 (pc := 16) (As := [.long i_2.toInt64, .long (0:Int64), .long (1:Int64)]) (rest := []) lsM_71 (sM_in e32) ⟨Nat.le_of_ble_eq_true rfl, Nat.le_of_ble_eq_true rfl, Nat.le_of_ble_eq_true rfl, Nat.le_of_ble_eq_true rfl⟩ dM_ask_16 rfl rfl (Nat.le_of_ble_eq_true rfl) ?_
  refine v_if_ne (pc := 19) (tgt := 25) dM_ask_19 rfl hf (fun hf => ?_) (fun hf => ?_)
  · refine v_ldc (pc := 22) dM_ask_22 kiM_90 ?_
    exact v_iret (pc := 24) dM_ask_24 (by decide) (by decide) hf
  refine v_aload_n (i := 0) (pc := 25) dM_ask_25 rfl rfl ?_
  refine v_iconst (pc := 26) (0:Int32) dM_ask_26 rfl ?_
  refine v_put (pc := 27) fpM_156 (fun _ => ⟨rfl, rfl⟩) dM_ask_27 hf (fun h6 hf => ?_)
  refine v_aload_n (i := 0) (pc := 30) dM_ask_30 rfl rfl ?_
  refine v_iload_n (i := 1) (pc := 31) dM_ask_31 rfl rfl ?_
  obtain ⟨u31, cu31, hf⟩ := bnd hf
  obtain ⟨h7, i8, e30, hf⟩ := bndp hf
  refine v_M1 (pc := 32) (As := [.int i_1]) (rest := []) lmM_149 cu31 (sM_look e30) ⟨Nat.le_of_ble_eq_true rfl, Nat.le_of_ble_eq_true rfl, Nat.le_of_ble_eq_true rfl, Nat.le_of_ble_eq_true rfl⟩ dM_ask_32 rfl rfl (Nat.le_of_ble_eq_true rfl) ?_
  refine v_istore_n (i := 3) (pc := 35) (ls' := [some (.ref a_0), some (.int i_1), some (.int i_2), some (.int i8), none, none]) dM_ask_35 rfl (by decide) rfl ?_
  refine v_iload_n (i := 3) (pc := 36) dM_ask_36 rfl rfl ?_
  refine v_if_ge (pc := 37) (tgt := 42) dM_ask_37 rfl hf (fun hf => ?_) (fun hf => ?_)
  rotate_left
  · refine v_iload_n (i := 3) (pc := 40) dM_ask_40 rfl rfl ?_
    exact v_iret (pc := 41) dM_ask_41 (by decide) (by decide) hf
  refine v_aload_n (i := 0) (pc := 42) dM_ask_42 rfl rfl ?_
  refine v_iload_n (i := 1) (pc := 43) dM_ask_43 rfl rfl ?_
  obtain ⟨u29, cu29, hf⟩ := bnd hf
  obtain ⟨h9, i10, e28, hf⟩ := bndp hf
  refine v_M1 (pc := 44) (As := [.int i_1]) (rest := []) lmM_126 cu29 (sM_kindOf e28) ⟨Nat.le_of_ble_eq_true rfl, Nat.le_of_ble_eq_true rfl, Nat.le_of_ble_eq_true rfl, Nat.le_of_ble_eq_true rfl⟩ dM_ask_44 rfl rfl (Nat.le_of_ble_eq_true rfl) ?_
  refine v_istore (pc := 47) (ls' := [some (.ref a_0), some (.int i_1), some (.int i_2), some (.int i8), some (.int i10), none]) dM_ask_47 (by decide) rfl ?_
  refine v_iload (pc := 49) dM_ask_49 rfl ?_
  refine v_iconst (pc := 51) (3:Int32) dM_ask_51 rfl ?_
  refine v_icmp_ne (pc := 52) (tgt := 101) dM_ask_52 rfl hf (fun hf => ?_) (fun hf => ?_)
  · refine v_iconst (pc := 55) (0:Int32) dM_ask_55 rfl ?_
    refine v_istore (pc := 56) (ls' := [some (.ref a_0), some (.int i_1), some (.int i_2), some (.int i8), some (.int i10), some (.int (0:Int32))]) dM_ask_56 (by decide) rfl ?_
    refine v_iload_n (i := 2) (pc := 58) dM_ask_58 rfl rfl ?_
    refine v_if_ne (pc := 59) (tgt := 77) dM_ask_59 rfl hf (fun hf => ?_) (fun hf => ?_)
    rotate_left
    · refine v_wk (ls' := [some (.ref a_0), some (.int i_1), none, none, none, some (.int (0:Int32))]) ⟨rfl, rfl, rfl, trivial⟩ ?_
      exact tM_ask_77 n h9 a_0 i_1 (0:Int32) hf
    refine v_aload_n (i := 0) (pc := 62) dM_ask_62 rfl rfl ?_
    refine v_bipush (pc := 63) (13:Int32) dM_ask_63 rfl ?_
    obtain ⟨u27, cu27, hf⟩ := bnd hf
    obtain ⟨h21, e26, hf⟩ := bnd hf
    refine v_M0 (pc := 65) (As := [.int (13:Int32)]) (rest := []) lmM_159 cu27 (sM_began e26) ⟨Nat.le_of_ble_eq_true rfl, Nat.le_of_ble_eq_true rfl, Nat.le_of_ble_eq_true rfl, Nat.le_of_ble_eq_true rfl⟩ dM_ask_65 rfl rfl (Nat.le_of_ble_eq_true rfl) ?_
    refine v_aload_n (i := 0) (pc := 68) dM_ask_68 rfl rfl ?_
    refine v_iload_n (i := 1) (pc := 69) dM_ask_69 rfl rfl ?_
    refine v_iload (pc := 70) dM_ask_70 rfl ?_
    obtain ⟨u25, cu25, hf⟩ := bnd hf
    obtain ⟨h22, i23, e24, hf⟩ := bndp hf
    refine v_M1 (pc := 72) (As := [.int i_1, .int i10]) (rest := []) lmM_162 cu25 (sM_sized e24) ⟨Nat.le_of_ble_eq_true rfl, Nat.le_of_ble_eq_true rfl, Nat.le_of_ble_eq_true rfl, Nat.le_of_ble_eq_true rfl⟩ dM_ask_72 rfl rfl (Nat.le_of_ble_eq_true rfl) ?_
    refine v_istore (pc := 75) (ls' := [some (.ref a_0), some (.int i_1), some (.int i_2), some (.int i8), some (.int i10), some (.int i23)]) dM_ask_75 (by decide) rfl ?_
    refine v_wk (ls' := [some (.ref a_0), some (.int i_1), none, none, none, some (.int i23)]) ⟨rfl, rfl, rfl, trivial⟩ ?_
    exact tM_ask_77 n h22 a_0 i_1 i23 hf
  refine v_iload_n (i := 2) (pc := 101) dM_ask_101 rfl rfl ?_
  refine v_if_ne (pc := 102) (tgt := 113) dM_ask_102 rfl hf (fun hf => ?_) (fun hf => ?_)
  · refine v_aload_n (i := 0) (pc := 105) dM_ask_105 rfl rfl ?_
    refine v_iload_n (i := 1) (pc := 106) dM_ask_106 rfl rfl ?_
    refine v_iload (pc := 107) dM_ask_107 rfl ?_
    obtain ⟨u20, cu20, hf⟩ := bnd hf
    obtain ⟨h17, i18, e19, hf⟩ := bndp hf
    refine v_M1 (pc := 109) (As := [.int i_1, .int i10]) (rest := []) lmM_162 cu20 (sM_sized e19) ⟨Nat.le_of_ble_eq_true rfl, Nat.le_of_ble_eq_true rfl, Nat.le_of_ble_eq_true rfl, Nat.le_of_ble_eq_true rfl⟩ dM_ask_109 rfl rfl (Nat.le_of_ble_eq_true rfl) ?_
    exact v_iret (pc := 112) dM_ask_112 (by decide) (by decide) hf
  refine v_iload (pc := 113) dM_ask_113 rfl ?_
  refine v_iconst (pc := 115) (1:Int32) dM_ask_115 rfl ?_
  obtain ⟨h11, i12, e16, hf⟩ := bndp hf
  refine v_S1 (pc := 116) (As := [.int i10, .int (1:Int32)]) (rest := []) lsM_152 (sM_isOf e16) ⟨Nat.le_of_ble_eq_true rfl, Nat.le_of_ble_eq_true rfl, Nat.le_of_ble_eq_true rfl, Nat.le_of_ble_eq_true rfl⟩ dM_ask_116 rfl rfl (Nat.le_of_ble_eq_true rfl) ?_
  refine v_if_eq (pc := 119) (tgt := 128) dM_ask_119 rfl hf (fun hf => ?_) (fun hf => ?_)
  · refine v_wk (ls' := [some (.ref a_0), some (.int i_1), none, none, some (.int i10), none]) ⟨rfl, rfl, rfl, trivial⟩ ?_
    exact tM_ask_128 n h11 a_0 i_1 i10 hf
  refine v_aload_n (i := 0) (pc := 122) dM_ask_122 rfl rfl ?_
  refine v_bipush (pc := 123) (21:Int32) dM_ask_123 rfl ?_
  obtain ⟨u15, cu15, hf⟩ := bnd hf
  obtain ⟨h13, e14, hf⟩ := bnd hf
  refine v_M0 (pc := 125) (As := [.int (21:Int32)]) (rest := []) lmM_159 cu15 (sM_began e14) ⟨Nat.le_of_ble_eq_true rfl, Nat.le_of_ble_eq_true rfl, Nat.le_of_ble_eq_true rfl, Nat.le_of_ble_eq_true rfl⟩ dM_ask_125 rfl rfl (Nat.le_of_ble_eq_true rfl) ?_
  refine v_wk (ls' := [some (.ref a_0), some (.int i_1), none, none, some (.int i10), none]) ⟨rfl, rfl, rfl, trivial⟩ ?_
  exact tM_ask_128 n h13 a_0 i_1 i10 hf
abbrev rmM_trace : Room := { frames := 1, cells := 0, slots := 0, locals := 25 }
def fM_trace (h : MH) (a_0 : Nat) (i_1 : Int32) : Option (MH × Int32) := ((pf h a_0 [12] 0 (.int (0:Int32))).bind fun h1 => ((gfI h1 a_0 [12] 13).bind fun i2 => (bnd2 (fM_in h1 i_1.toInt64 (0:Int64) (i2 - (1:Int32)).toInt64) fun h3 i4 => (if i4 = (0:Int32) then (some (h3, (-1000000:Int32))) else ((gfR h3 a_0 [12] 12).bind fun a5 => ((rdI h3 a5 i_1).bind fun i6 => (some (h3, i6))))))))
set_option maxRecDepth 20000 in
set_option maxHeartbeats 4000000 in
theorem sM_trace {g : Gh} {h' : MH} {r' : Int32} {h : MH} {a_0 : Nat} {i_1 : Int32} (hf : fM_trace h a_0 i_1 = some (h', r')) : Sp g yM_trace cM_trace 2 (some .int) rmM_trace h [.ref a_0, .int i_1] h' (some (.int r')) := by
  refine sp_of (by decide) (Nat.le_of_ble_eq_true rfl) ?_
  change V g yM_trace cM_trace 2 (some .int) rmM_trace (ZQ g rmM_trace h' (some (.int r'))) 0 0 h 0 [some (.ref a_0), some (.int i_1)] []
  unfold fM_trace at hf
  refine v_aload_n (i := 0) (pc := 0) dM_trace_0 rfl rfl ?_
  refine v_iconst (pc := 1) (0:Int32) dM_trace_1 rfl ?_
  refine v_put (pc := 2) fpM_1 (fun _ => ⟨rfl, rfl⟩) dM_trace_2 hf (fun h1 hf => ?_)
  refine v_iload_n (i := 1) (pc := 5) dM_trace_5 rfl rfl ?_
  refine v_i2l (pc := 6) dM_trace_6 ?_
  refine v_lconst (pc := 7) (0:Int64) dM_trace_7 rfl ?_
  refine v_aload_n (i := 0) (pc := 8) dM_trace_8 rfl rfl ?_
  refine v_getI (pc := 9) fgM_156 dM_trace_9 hf (fun i2 hf => ?_)
  refine v_iconst (pc := 12) (1:Int32) dM_trace_12 rfl ?_
  refine v_isub (pc := 13) dM_trace_13 ?_
  refine v_i2l (pc := 14) dM_trace_14 ?_
  obtain ⟨h3, i4, e7, hf⟩ := bndp hf
  refine v_S1 (pc := 15) (As := [.long i_1.toInt64, .long (0:Int64), .long (i2 - (1:Int32)).toInt64]) (rest := []) lsM_71 (sM_in e7) ⟨Nat.le_of_ble_eq_true rfl, Nat.le_of_ble_eq_true rfl, Nat.le_of_ble_eq_true rfl, Nat.le_of_ble_eq_true rfl⟩ dM_trace_15 rfl rfl (Nat.le_of_ble_eq_true rfl) ?_
  refine v_if_eq (pc := 18) (tgt := 30) dM_trace_18 rfl hf (fun hf => ?_) (fun hf => ?_)
  · refine v_ldc (pc := 30) dM_trace_30 kiM_95 ?_
    exact v_iret (pc := 32) dM_trace_32 (by decide) (by decide) hf
  refine v_aload_n (i := 0) (pc := 21) dM_trace_21 rfl rfl ?_
  refine v_getR (pc := 22) fgM_46 dM_trace_22 hf (fun a5 hf => ?_)
  refine v_iload_n (i := 1) (pc := 25) dM_trace_25 rfl rfl ?_
  refine v_iald (pc := 26) dM_trace_26 hf (fun i6 hf => ?_)
  refine v_goto (pc := 27) (tgt := 32) dM_trace_27 rfl ?_
  exact v_iret (pc := 32) dM_trace_32 (by decide) (by decide) hf
abbrev rmM_weight : Room := { frames := 2, cells := 0, slots := 0, locals := 45 }
def fM_weight (n : Nat) (h : MH) (a_0 : Nat) (i_1 : Int32) (i_2 : Int32) : Option (MH × Int32) := ((pf h a_0 [12] 0 (.int (0:Int32))).bind fun h1 => (bnd2 (fM_isPlace h1 i_1) fun h2 i3 => (if i3 = (0:Int32) then (some (h2, (-1000001:Int32))) else (bnd2 (fM_isTree h2 i_2) fun h4 i5 => (if i5 = (0:Int32) then (some (h4, (-1000001:Int32))) else ((chk h4 a_0 12).bind fun _ => (bnd2 (fM_look h4 a_0 i_1) fun h6 i7 => (if (0:Int32) ≤ i7 then ((chk h6 a_0 12).bind fun _ => (bnd2 (fM_weightOf n h6 a_0 i_1 i_2) fun h8 j9 => (some (h8, j9.toInt32)))) else (some (h6, i7))))))))))
set_option maxRecDepth 20000 in
set_option maxHeartbeats 4000000 in
theorem sM_weight {g : Gh} {h' : MH} {r' : Int32} {n : Nat} {h : MH} {a_0 : Nat} {i_1 : Int32} {i_2 : Int32} (hf : fM_weight n h a_0 i_1 i_2 = some (h', r')) : Sp g yM_weight cM_weight 4 (some .int) rmM_weight h [.ref a_0, .int i_1, .int i_2] h' (some (.int r')) := by
  refine sp_of (by decide) (Nat.le_of_ble_eq_true rfl) ?_
  change V g yM_weight cM_weight 4 (some .int) rmM_weight (ZQ g rmM_weight h' (some (.int r'))) 0 0 h 0 [some (.ref a_0), some (.int i_1), some (.int i_2), none] []
  unfold fM_weight at hf
  refine v_aload_n (i := 0) (pc := 0) dM_weight_0 rfl rfl ?_
  refine v_iconst (pc := 1) (0:Int32) dM_weight_1 rfl ?_
  refine v_put (pc := 2) fpM_1 (fun _ => ⟨rfl, rfl⟩) dM_weight_2 hf (fun h1 hf => ?_)
  refine v_iload_n (i := 1) (pc := 5) dM_weight_5 rfl rfl ?_
  obtain ⟨h2, i3, e15, hf⟩ := bndp hf
  refine v_S1 (pc := 6) (As := [.int i_1]) (rest := []) lsM_129 (sM_isPlace e15) ⟨Nat.le_of_ble_eq_true rfl, Nat.le_of_ble_eq_true rfl, Nat.le_of_ble_eq_true rfl, Nat.le_of_ble_eq_true rfl⟩ dM_weight_6 rfl rfl (Nat.le_of_ble_eq_true rfl) ?_
  refine v_if_eq (pc := 9) (tgt := 19) dM_weight_9 rfl hf (fun hf => ?_) (fun hf => ?_)
  · refine v_ldc (pc := 19) dM_weight_19 kiM_90 ?_
    exact v_iret (pc := 21) dM_weight_21 (by decide) (by decide) hf
  refine v_iload_n (i := 2) (pc := 12) dM_weight_12 rfl rfl ?_
  obtain ⟨h4, i5, e14, hf⟩ := bndp hf
  refine v_S1 (pc := 13) (As := [.int i_2]) (rest := []) lsM_96 (sM_isTree e14) ⟨Nat.le_of_ble_eq_true rfl, Nat.le_of_ble_eq_true rfl, Nat.le_of_ble_eq_true rfl, Nat.le_of_ble_eq_true rfl⟩ dM_weight_13 rfl rfl (Nat.le_of_ble_eq_true rfl) ?_
  refine v_if_ne (pc := 16) (tgt := 22) dM_weight_16 rfl hf (fun hf => ?_) (fun hf => ?_)
  · refine v_ldc (pc := 19) dM_weight_19 kiM_90 ?_
    exact v_iret (pc := 21) dM_weight_21 (by decide) (by decide) hf
  refine v_aload_n (i := 0) (pc := 22) dM_weight_22 rfl rfl ?_
  refine v_iload_n (i := 1) (pc := 23) dM_weight_23 rfl rfl ?_
  obtain ⟨u13, cu13, hf⟩ := bnd hf
  obtain ⟨h6, i7, e12, hf⟩ := bndp hf
  refine v_M1 (pc := 24) (As := [.int i_1]) (rest := []) lmM_149 cu13 (sM_look e12) ⟨Nat.le_of_ble_eq_true rfl, Nat.le_of_ble_eq_true rfl, Nat.le_of_ble_eq_true rfl, Nat.le_of_ble_eq_true rfl⟩ dM_weight_24 rfl rfl (Nat.le_of_ble_eq_true rfl) ?_
  refine v_istore_n (i := 3) (pc := 27) (ls' := [some (.ref a_0), some (.int i_1), some (.int i_2), some (.int i7)]) dM_weight_27 rfl (by decide) rfl ?_
  refine v_iload_n (i := 3) (pc := 28) dM_weight_28 rfl rfl ?_
  refine v_if_ge (pc := 29) (tgt := 36) dM_weight_29 rfl hf (fun hf => ?_) (fun hf => ?_)
  rotate_left
  · refine v_iload_n (i := 3) (pc := 32) dM_weight_32 rfl rfl ?_
    refine v_goto (pc := 33) (tgt := 43) dM_weight_33 rfl ?_
    exact v_iret (pc := 43) dM_weight_43 (by decide) (by decide) hf
  refine v_aload_n (i := 0) (pc := 36) dM_weight_36 rfl rfl ?_
  refine v_iload_n (i := 1) (pc := 37) dM_weight_37 rfl rfl ?_
  refine v_iload_n (i := 2) (pc := 38) dM_weight_38 rfl rfl ?_
  obtain ⟨u11, cu11, hf⟩ := bnd hf
  obtain ⟨h8, j9, e10, hf⟩ := bndp hf
  refine v_M1 (pc := 39) (As := [.int i_1, .int i_2]) (rest := []) lmM_168 cu11 (sM_weightOf e10) ⟨Nat.le_of_ble_eq_true rfl, Nat.le_of_ble_eq_true rfl, Nat.le_of_ble_eq_true rfl, Nat.le_of_ble_eq_true rfl⟩ dM_weight_39 rfl rfl (Nat.le_of_ble_eq_true rfl) ?_
  refine v_l2i (pc := 42) dM_weight_42 ?_
  exact v_iret (pc := 43) dM_weight_43 (by decide) (by decide) hf
abbrev rmM_order : Room := { frames := 5, cells := 0, slots := 0, locals := 112 }
def fM_order (n : Nat) (h : MH) (a_0 : Nat) (i_1 : Int32) (i_2 : Int32) : Option (MH × Int32) := ((pf h a_0 [12] 0 (.int (0:Int32))).bind fun h1 => (bnd2 (fM_isPlace h1 i_1) fun h2 i3 => (if i3 = (0:Int32) then (some (h2, (-1000001:Int32))) else (bnd2 (fM_in h2 i_2.toInt64 (0:Int64) (1:Int64)) fun h4 i5 => (if i5 = (0:Int32) then (some (h4, (-1000001:Int32))) else ((chk h4 a_0 12).bind fun _ => (bnd2 (fM_look h4 a_0 i_1) fun h6 i7 => (if (0:Int32) ≤ i7 then (if i_2 = (0:Int32) then ((chk h6 a_0 12).bind fun _ => (bnd2 (fM_orderOf n h6 a_0 i_1) fun h12 i13 => (some (h12, i13)))) else ((chk h6 a_0 12).bind fun _ => (bnd2 (fM_firstNot n h6 a_0 i_1) fun h8 i9 => (some (h8, i9))))) else (some (h6, i7))))))))))
set_option maxRecDepth 20000 in
set_option maxHeartbeats 4000000 in
theorem sM_order {g : Gh} {h' : MH} {r' : Int32} {n : Nat} {h : MH} {a_0 : Nat} {i_1 : Int32} {i_2 : Int32} (hf : fM_order n h a_0 i_1 i_2 = some (h', r')) : Sp g yM_order cM_order 4 (some .int) rmM_order h [.ref a_0, .int i_1, .int i_2] h' (some (.int r')) := by
  refine sp_of (by decide) (Nat.le_of_ble_eq_true rfl) ?_
  change V g yM_order cM_order 4 (some .int) rmM_order (ZQ g rmM_order h' (some (.int r'))) 0 0 h 0 [some (.ref a_0), some (.int i_1), some (.int i_2), none] []
  unfold fM_order at hf
  refine v_aload_n (i := 0) (pc := 0) dM_order_0 rfl rfl ?_
  refine v_iconst (pc := 1) (0:Int32) dM_order_1 rfl ?_
  refine v_put (pc := 2) fpM_1 (fun _ => ⟨rfl, rfl⟩) dM_order_2 hf (fun h1 hf => ?_)
  refine v_iload_n (i := 1) (pc := 5) dM_order_5 rfl rfl ?_
  obtain ⟨h2, i3, e19, hf⟩ := bndp hf
  refine v_S1 (pc := 6) (As := [.int i_1]) (rest := []) lsM_129 (sM_isPlace e19) ⟨Nat.le_of_ble_eq_true rfl, Nat.le_of_ble_eq_true rfl, Nat.le_of_ble_eq_true rfl, Nat.le_of_ble_eq_true rfl⟩ dM_order_6 rfl rfl (Nat.le_of_ble_eq_true rfl) ?_
  refine v_if_eq (pc := 9) (tgt := 22) dM_order_9 rfl hf (fun hf => ?_) (fun hf => ?_)
  · refine v_ldc (pc := 22) dM_order_22 kiM_90 ?_
    exact v_iret (pc := 24) dM_order_24 (by decide) (by decide) hf
  refine v_iload_n (i := 2) (pc := 12) dM_order_12 rfl rfl ?_
  refine v_i2l (pc := 13) dM_order_13 ?_
  refine v_lconst (pc := 14) (0:Int64) dM_order_14 rfl ?_
  refine v_lconst (pc := 15) (1:Int64) dM_order_15 rfl ?_
  obtain ⟨h4, i5, e18, hf⟩ := bndp hf
  refine v_S1 (pc := 16) (As := [.long i_2.toInt64, .long (0:Int64), .long (1:Int64)]) (rest := []) lsM_71 (sM_in e18) ⟨Nat.le_of_ble_eq_true rfl, Nat.le_of_ble_eq_true rfl, Nat.le_of_ble_eq_true rfl, Nat.le_of_ble_eq_true rfl⟩ dM_order_16 rfl rfl (Nat.le_of_ble_eq_true rfl) ?_
  refine v_if_ne (pc := 19) (tgt := 25) dM_order_19 rfl hf (fun hf => ?_) (fun hf => ?_)
  · refine v_ldc (pc := 22) dM_order_22 kiM_90 ?_
    exact v_iret (pc := 24) dM_order_24 (by decide) (by decide) hf
  refine v_aload_n (i := 0) (pc := 25) dM_order_25 rfl rfl ?_
  refine v_iload_n (i := 1) (pc := 26) dM_order_26 rfl rfl ?_
  obtain ⟨u17, cu17, hf⟩ := bnd hf
  obtain ⟨h6, i7, e16, hf⟩ := bndp hf
  refine v_M1 (pc := 27) (As := [.int i_1]) (rest := []) lmM_149 cu17 (sM_look e16) ⟨Nat.le_of_ble_eq_true rfl, Nat.le_of_ble_eq_true rfl, Nat.le_of_ble_eq_true rfl, Nat.le_of_ble_eq_true rfl⟩ dM_order_27 rfl rfl (Nat.le_of_ble_eq_true rfl) ?_
  refine v_istore_n (i := 3) (pc := 30) (ls' := [some (.ref a_0), some (.int i_1), some (.int i_2), some (.int i7)]) dM_order_30 rfl (by decide) rfl ?_
  refine v_iload_n (i := 3) (pc := 31) dM_order_31 rfl rfl ?_
  refine v_if_ge (pc := 32) (tgt := 39) dM_order_32 rfl hf (fun hf => ?_) (fun hf => ?_)
  rotate_left
  · refine v_iload_n (i := 3) (pc := 35) dM_order_35 rfl rfl ?_
    refine v_goto (pc := 36) (tgt := 56) dM_order_36 rfl ?_
    exact v_iret (pc := 56) dM_order_56 (by decide) (by decide) hf
  refine v_iload_n (i := 2) (pc := 39) dM_order_39 rfl rfl ?_
  refine v_if_ne (pc := 40) (tgt := 51) dM_order_40 rfl hf (fun hf => ?_) (fun hf => ?_)
  rotate_left
  · refine v_aload_n (i := 0) (pc := 51) dM_order_51 rfl rfl ?_
    refine v_iload_n (i := 1) (pc := 52) dM_order_52 rfl rfl ?_
    obtain ⟨u11, cu11, hf⟩ := bnd hf
    obtain ⟨h8, i9, e10, hf⟩ := bndp hf
    refine v_M1 (pc := 53) (As := [.int i_1]) (rest := []) lmM_175 cu11 (sM_firstNot e10) ⟨Nat.le_of_ble_eq_true rfl, Nat.le_of_ble_eq_true rfl, Nat.le_of_ble_eq_true rfl, Nat.le_of_ble_eq_true rfl⟩ dM_order_53 rfl rfl (Nat.le_of_ble_eq_true rfl) ?_
    exact v_iret (pc := 56) dM_order_56 (by decide) (by decide) hf
  refine v_aload_n (i := 0) (pc := 43) dM_order_43 rfl rfl ?_
  refine v_iload_n (i := 1) (pc := 44) dM_order_44 rfl rfl ?_
  obtain ⟨u15, cu15, hf⟩ := bnd hf
  obtain ⟨h12, i13, e14, hf⟩ := bndp hf
  refine v_M1 (pc := 45) (As := [.int i_1]) (rest := []) lmM_165 cu15 (sM_orderOf e14) ⟨Nat.le_of_ble_eq_true rfl, Nat.le_of_ble_eq_true rfl, Nat.le_of_ble_eq_true rfl, Nat.le_of_ble_eq_true rfl⟩ dM_order_45 rfl rfl (Nat.le_of_ble_eq_true rfl) ?_
  refine v_goto (pc := 48) (tgt := 56) dM_order_48 rfl ?_
  exact v_iret (pc := 56) dM_order_56 (by decide) (by decide) hf
abbrev rmM_share : Room := { frames := 2, cells := 0, slots := 0, locals := 45 }
def fM_share_215 (k63 : (MH × Nat × Int32 × Int32 × Int32 × Int32 × Int32) → Option (MH × Int32)) (k73 : (MH × Nat × Int32 × Int32 × Int32 × Int32 × Int32 × Int32) → Option (MH × Int32)) (n : Nat) (h : MH) (s0 : Int64) (s1 : Int32) (s2 : Nat) (x0 : Nat) (x1 : Int32) (x2 : Int32) (x3 : Int32) (x5 : Int32) (x6 : Int32) (x7 : Int32) : Option (MH × Int32) := ((wrL h s2 s1 s0).bind fun h1 => (k73 (h1, x0, x1, x2, x3, x5, x6, (x7 + (1:Int32)))))
set_option maxRecDepth 20000 in
set_option maxHeartbeats 4000000 in
theorem tM_share_215 {g : Gh} {h' : MH} {r' : Int32} {k63 : (MH × Nat × Int32 × Int32 × Int32 × Int32 × Int32) → Option (MH × Int32)} {k73 : (MH × Nat × Int32 × Int32 × Int32 × Int32 × Int32 × Int32) → Option (MH × Int32)} (hk63 : ∀ (h : MH) (x0 : Nat) (x1 : Int32) (x2 : Int32) (x3 : Int32) (x5 : Int32) (x6 : Int32), k63 (h, x0, x1, x2, x3, x5, x6) = some (h', r') → V g yM_share cM_share 12 (some .int) rmM_share (ZQ g rmM_share h' (some (.int r'))) 0 0 h 63 [some (.ref x0), some (.int x1), some (.int x2), some (.int x3), none, some (.int x5), some (.int x6), none, none, none, none, none] []) (hk73 : ∀ (h : MH) (x0 : Nat) (x1 : Int32) (x2 : Int32) (x3 : Int32) (x5 : Int32) (x6 : Int32) (x7 : Int32), k73 (h, x0, x1, x2, x3, x5, x6, x7) = some (h', r') → V g yM_share cM_share 12 (some .int) rmM_share (ZQ g rmM_share h' (some (.int r'))) 0 0 h 73 [some (.ref x0), some (.int x1), some (.int x2), some (.int x3), none, some (.int x5), some (.int x6), some (.int x7), none, none, none, none] []) (n : Nat) (h : MH) (s0 : Int64) (s1 : Int32) (s2 : Nat) (x0 : Nat) (x1 : Int32) (x2 : Int32) (x3 : Int32) (x5 : Int32) (x6 : Int32) (x7 : Int32) (hf : fM_share_215 k63 k73 n h s0 s1 s2 x0 x1 x2 x3 x5 x6 x7 = some (h', r')) : V g yM_share cM_share 12 (some .int) rmM_share (ZQ g rmM_share h' (some (.int r'))) 0 0 h 215 [some (.ref x0), some (.int x1), some (.int x2), some (.int x3), none, some (.int x5), some (.int x6), some (.int x7), none, none, none, none] [.long s0, .int s1, .ref s2] := by
  unfold fM_share_215 at hf
  refine v_last (pc := 215) dM_share_215 hf (fun h1 hf => ?_)
  refine v_iinc (pc := 216) (v := (x7 + (1:Int32))) (ls' := [some (.ref x0), some (.int x1), some (.int x2), some (.int x3), none, some (.int x5), some (.int x6), some (.int (x7 + (1:Int32))), none, none, none, none]) dM_share_216 rfl rfl (by decide) rfl ?_
  refine v_goto (pc := 219) (tgt := 73) dM_share_219 rfl ?_
  refine v_wk (ls' := [some (.ref x0), some (.int x1), some (.int x2), some (.int x3), none, some (.int x5), some (.int x6), some (.int (x7 + (1:Int32))), none, none, none, none]) ⟨rfl, rfl, rfl, rfl, rfl, rfl, rfl, trivial⟩ ?_
  exact hk73 h1 x0 x1 x2 x3 x5 x6 (x7 + (1:Int32)) hf
def fM_share_190 (k63 : (MH × Nat × Int32 × Int32 × Int32 × Int32 × Int32) → Option (MH × Int32)) (k73 : (MH × Nat × Int32 × Int32 × Int32 × Int32 × Int32 × Int32) → Option (MH × Int32)) (n : Nat) (h : MH) (s0 : Int64) (s1 : Int32) (s2 : Nat) (x0 : Nat) (x1 : Int32) (x2 : Int32) (x3 : Int32) (x5 : Int32) (x6 : Int32) (x7 : Int32) : Option (MH × Int32) := ((wrL h s2 s1 s0).bind fun h1 => ((gfR h1 x0 [12] 16).bind fun a2 => (if x6 = x7 then (fM_share_215 k63 k73 n h1 (1:Int64) (((8:Int32) * x6) + x7) a2 x0 x1 x2 x3 x5 x6 x7) else (fM_share_215 k63 k73 n h1 (0:Int64) (((8:Int32) * x6) + x7) a2 x0 x1 x2 x3 x5 x6 x7))))
set_option maxRecDepth 20000 in
set_option maxHeartbeats 4000000 in
theorem tM_share_190 {g : Gh} {h' : MH} {r' : Int32} {k63 : (MH × Nat × Int32 × Int32 × Int32 × Int32 × Int32) → Option (MH × Int32)} {k73 : (MH × Nat × Int32 × Int32 × Int32 × Int32 × Int32 × Int32) → Option (MH × Int32)} (hk63 : ∀ (h : MH) (x0 : Nat) (x1 : Int32) (x2 : Int32) (x3 : Int32) (x5 : Int32) (x6 : Int32), k63 (h, x0, x1, x2, x3, x5, x6) = some (h', r') → V g yM_share cM_share 12 (some .int) rmM_share (ZQ g rmM_share h' (some (.int r'))) 0 0 h 63 [some (.ref x0), some (.int x1), some (.int x2), some (.int x3), none, some (.int x5), some (.int x6), none, none, none, none, none] []) (hk73 : ∀ (h : MH) (x0 : Nat) (x1 : Int32) (x2 : Int32) (x3 : Int32) (x5 : Int32) (x6 : Int32) (x7 : Int32), k73 (h, x0, x1, x2, x3, x5, x6, x7) = some (h', r') → V g yM_share cM_share 12 (some .int) rmM_share (ZQ g rmM_share h' (some (.int r'))) 0 0 h 73 [some (.ref x0), some (.int x1), some (.int x2), some (.int x3), none, some (.int x5), some (.int x6), some (.int x7), none, none, none, none] []) (n : Nat) (h : MH) (s0 : Int64) (s1 : Int32) (s2 : Nat) (x0 : Nat) (x1 : Int32) (x2 : Int32) (x3 : Int32) (x5 : Int32) (x6 : Int32) (x7 : Int32) (hf : fM_share_190 k63 k73 n h s0 s1 s2 x0 x1 x2 x3 x5 x6 x7 = some (h', r')) : V g yM_share cM_share 12 (some .int) rmM_share (ZQ g rmM_share h' (some (.int r'))) 0 0 h 190 [some (.ref x0), some (.int x1), some (.int x2), some (.int x3), none, some (.int x5), some (.int x6), some (.int x7), none, none, none, none] [.long s0, .int s1, .ref s2] := by
  unfold fM_share_190 at hf
  refine v_last (pc := 190) dM_share_190 hf (fun h1 hf => ?_)
  refine v_aload_n (i := 0) (pc := 191) dM_share_191 rfl rfl ?_
  refine v_getR (pc := 192) fgM_55 dM_share_192 hf (fun a2 hf => ?_)
  refine v_bipush (pc := 195) (8:Int32) dM_share_195 rfl ?_
  refine v_iload (pc := 197) dM_share_197 rfl ?_
  refine v_imul (pc := 199) dM_share_199 ?_
  refine v_iload (pc := 200) dM_share_200 rfl ?_
  refine v_iadd (pc := 202) dM_share_202 ?_
  refine v_iload (pc := 203) dM_share_203 rfl ?_
  refine v_iload (pc := 205) dM_share_205 rfl ?_
  refine v_icmp_ne (pc := 207) (tgt := 214) dM_share_207 rfl hf (fun hf => ?_) (fun hf => ?_)
  rotate_left
  · refine v_lconst (pc := 214) (0:Int64) dM_share_214 rfl ?_
    refine v_wk (ls' := [some (.ref x0), some (.int x1), some (.int x2), some (.int x3), none, some (.int x5), some (.int x6), some (.int x7), none, none, none, none]) ⟨rfl, rfl, rfl, rfl, rfl, rfl, rfl, trivial⟩ ?_
    exact tM_share_215 hk63 hk73 n h1 (0:Int64) (((8:Int32) * x6) + x7) a2 x0 x1 x2 x3 x5 x6 x7 hf
  refine v_lconst (pc := 210) (1:Int64) dM_share_210 rfl ?_
  refine v_goto (pc := 211) (tgt := 215) dM_share_211 rfl ?_
  refine v_wk (ls' := [some (.ref x0), some (.int x1), some (.int x2), some (.int x3), none, some (.int x5), some (.int x6), some (.int x7), none, none, none, none]) ⟨rfl, rfl, rfl, rfl, rfl, rfl, rfl, trivial⟩ ?_
  exact tM_share_215 hk63 hk73 n h1 (1:Int64) (((8:Int32) * x6) + x7) a2 x0 x1 x2 x3 x5 x6 x7 hf
def fM_share_99 (k63 : (MH × Nat × Int32 × Int32 × Int32 × Int32 × Int32) → Option (MH × Int32)) (k73 : (MH × Nat × Int32 × Int32 × Int32 × Int32 × Int32 × Int32) → Option (MH × Int32)) (n : Nat) (h : MH) (s0 : Int32) (x0 : Nat) (x1 : Int32) (x2 : Int32) (x3 : Int32) (x5 : Int32) (x6 : Int32) (x7 : Int32) : Option (MH × Int32) := ((gfR h x0 [12] 15).bind fun a1 => (if s0 = (0:Int32) then (fM_share_190 k63 k73 n h (0:Int64) (((8:Int32) * x6) + x7) a1 x0 x1 x2 x3 x5 x6 x7) else (if x2 = (0:Int32) then ((gfR h x0 [12] 10).bind fun a4 => ((rdL h a4 ((((64:Int32) * x1) + ((8:Int32) * x6)) + x7)).bind fun j5 => ((gfI h x0 [12] 2).bind fun i6 => ((gfR h x0 [12] 11).bind fun a7 => ((rdL h a7 (((8:Int32) * x1) + x7)).bind fun j8 => ((gfI h x0 [12] 2).bind fun i9 => (nzL i9.toInt64 (fM_share_190 k63 k73 n h (lrm ((j5 + i6.toInt64) - j8) i9.toInt64) (((8:Int32) * x6) + x7) a1 x0 x1 x2 x3 x5 x6 x7)))))))) else ((gfR h x0 [12] 10).bind fun a2 => ((rdL h a2 ((((64:Int32) * x1) + ((8:Int32) * x6)) + x7)).bind fun j3 => (fM_share_190 k63 k73 n h j3 (((8:Int32) * x6) + x7) a1 x0 x1 x2 x3 x5 x6 x7))))))
set_option maxRecDepth 20000 in
set_option maxHeartbeats 4000000 in
theorem tM_share_99 {g : Gh} {h' : MH} {r' : Int32} {k63 : (MH × Nat × Int32 × Int32 × Int32 × Int32 × Int32) → Option (MH × Int32)} {k73 : (MH × Nat × Int32 × Int32 × Int32 × Int32 × Int32 × Int32) → Option (MH × Int32)} (hk63 : ∀ (h : MH) (x0 : Nat) (x1 : Int32) (x2 : Int32) (x3 : Int32) (x5 : Int32) (x6 : Int32), k63 (h, x0, x1, x2, x3, x5, x6) = some (h', r') → V g yM_share cM_share 12 (some .int) rmM_share (ZQ g rmM_share h' (some (.int r'))) 0 0 h 63 [some (.ref x0), some (.int x1), some (.int x2), some (.int x3), none, some (.int x5), some (.int x6), none, none, none, none, none] []) (hk73 : ∀ (h : MH) (x0 : Nat) (x1 : Int32) (x2 : Int32) (x3 : Int32) (x5 : Int32) (x6 : Int32) (x7 : Int32), k73 (h, x0, x1, x2, x3, x5, x6, x7) = some (h', r') → V g yM_share cM_share 12 (some .int) rmM_share (ZQ g rmM_share h' (some (.int r'))) 0 0 h 73 [some (.ref x0), some (.int x1), some (.int x2), some (.int x3), none, some (.int x5), some (.int x6), some (.int x7), none, none, none, none] []) (n : Nat) (h : MH) (s0 : Int32) (x0 : Nat) (x1 : Int32) (x2 : Int32) (x3 : Int32) (x5 : Int32) (x6 : Int32) (x7 : Int32) (hf : fM_share_99 k63 k73 n h s0 x0 x1 x2 x3 x5 x6 x7 = some (h', r')) : V g yM_share cM_share 12 (some .int) rmM_share (ZQ g rmM_share h' (some (.int r'))) 0 0 h 99 [some (.ref x0), some (.int x1), some (.int x2), some (.int x3), none, some (.int x5), some (.int x6), some (.int x7), none, none, none, none] [.int s0] := by
  unfold fM_share_99 at hf
  refine v_istore (pc := 99) (ls' := [some (.ref x0), some (.int x1), some (.int x2), some (.int x3), none, some (.int x5), some (.int x6), some (.int x7), some (.int s0), none, none, none]) dM_share_99 (by decide) rfl ?_
  refine v_aload_n (i := 0) (pc := 101) dM_share_101 rfl rfl ?_
  refine v_getR (pc := 102) fgM_52 dM_share_102 hf (fun a1 hf => ?_)
  refine v_bipush (pc := 105) (8:Int32) dM_share_105 rfl ?_
  refine v_iload (pc := 107) dM_share_107 rfl ?_
  refine v_imul (pc := 109) dM_share_109 ?_
  refine v_iload (pc := 110) dM_share_110 rfl ?_
  refine v_iadd (pc := 112) dM_share_112 ?_
  refine v_iload (pc := 113) dM_share_113 rfl ?_
  refine v_if_ne (pc := 115) (tgt := 122) dM_share_115 rfl hf (fun hf => ?_) (fun hf => ?_)
  · refine v_lconst (pc := 118) (0:Int64) dM_share_118 rfl ?_
    refine v_goto (pc := 119) (tgt := 190) dM_share_119 rfl ?_
    refine v_wk (ls' := [some (.ref x0), some (.int x1), some (.int x2), some (.int x3), none, some (.int x5), some (.int x6), some (.int x7), none, none, none, none]) ⟨rfl, rfl, rfl, rfl, rfl, rfl, rfl, trivial⟩ ?_
    exact tM_share_190 hk63 hk73 n h (0:Int64) (((8:Int32) * x6) + x7) a1 x0 x1 x2 x3 x5 x6 x7 hf
  refine v_iload_n (i := 2) (pc := 122) dM_share_122 rfl rfl ?_
  refine v_if_ne (pc := 123) (tgt := 172) dM_share_123 rfl hf (fun hf => ?_) (fun hf => ?_)
  rotate_left
  · refine v_aload_n (i := 0) (pc := 172) dM_share_172 rfl rfl ?_
    refine v_getR (pc := 173) fgM_40 dM_share_173 hf (fun a2 hf => ?_)
    refine v_bipush (pc := 176) (64:Int32) dM_share_176 rfl ?_
    refine v_iload_n (i := 1) (pc := 178) dM_share_178 rfl rfl ?_
    refine v_imul (pc := 179) dM_share_179 ?_
    refine v_bipush (pc := 180) (8:Int32) dM_share_180 rfl ?_
    refine v_iload (pc := 182) dM_share_182 rfl ?_
    refine v_imul (pc := 184) dM_share_184 ?_
    refine v_iadd (pc := 185) dM_share_185 ?_
    refine v_iload (pc := 186) dM_share_186 rfl ?_
    refine v_iadd (pc := 188) dM_share_188 ?_
    refine v_lald (pc := 189) dM_share_189 hf (fun j3 hf => ?_)
    refine v_wk (ls' := [some (.ref x0), some (.int x1), some (.int x2), some (.int x3), none, some (.int x5), some (.int x6), some (.int x7), none, none, none, none]) ⟨rfl, rfl, rfl, rfl, rfl, rfl, rfl, trivial⟩ ?_
    exact tM_share_190 hk63 hk73 n h j3 (((8:Int32) * x6) + x7) a1 x0 x1 x2 x3 x5 x6 x7 hf
  refine v_aload_n (i := 0) (pc := 126) dM_share_126 rfl rfl ?_
  refine v_getR (pc := 127) fgM_40 dM_share_127 hf (fun a4 hf => ?_)
  refine v_bipush (pc := 130) (64:Int32) dM_share_130 rfl ?_
  refine v_iload_n (i := 1) (pc := 132) dM_share_132 rfl rfl ?_
  refine v_imul (pc := 133) dM_share_133 ?_
  refine v_bipush (pc := 134) (8:Int32) dM_share_134 rfl ?_
  refine v_iload (pc := 136) dM_share_136 rfl ?_
  refine v_imul (pc := 138) dM_share_138 ?_
  refine v_iadd (pc := 139) dM_share_139 ?_
  refine v_iload (pc := 140) dM_share_140 rfl ?_
  refine v_iadd (pc := 142) dM_share_142 ?_
  refine v_lald (pc := 143) dM_share_143 hf (fun j5 hf => ?_)
  refine v_aload_n (i := 0) (pc := 144) dM_share_144 rfl rfl ?_
  refine v_getI (pc := 145) fgM_80 dM_share_145 hf (fun i6 hf => ?_)
  refine v_i2l (pc := 148) dM_share_148 ?_
  refine v_ladd (pc := 149) dM_share_149 ?_
  refine v_aload_n (i := 0) (pc := 150) dM_share_150 rfl rfl ?_
  refine v_getR (pc := 151) fgM_43 dM_share_151 hf (fun a7 hf => ?_)
  refine v_bipush (pc := 154) (8:Int32) dM_share_154 rfl ?_
  refine v_iload_n (i := 1) (pc := 156) dM_share_156 rfl rfl ?_
  refine v_imul (pc := 157) dM_share_157 ?_
  refine v_iload (pc := 158) dM_share_158 rfl ?_
  refine v_iadd (pc := 160) dM_share_160 ?_
  refine v_lald (pc := 161) dM_share_161 hf (fun j8 hf => ?_)
  refine v_lsub (pc := 162) dM_share_162 ?_
  refine v_aload_n (i := 0) (pc := 163) dM_share_163 rfl rfl ?_
  refine v_getI (pc := 164) fgM_80 dM_share_164 hf (fun i9 hf => ?_)
  refine v_i2l (pc := 167) dM_share_167 ?_
  obtain ⟨z10, hf⟩ := nzL_of hf
  refine v_lrem (pc := 168) dM_share_168 z10 ?_
  refine v_goto (pc := 169) (tgt := 190) dM_share_169 rfl ?_
  refine v_wk (ls' := [some (.ref x0), some (.int x1), some (.int x2), some (.int x3), none, some (.int x5), some (.int x6), some (.int x7), none, none, none, none]) ⟨rfl, rfl, rfl, rfl, rfl, rfl, rfl, trivial⟩ ?_
  exact tM_share_190 hk63 hk73 n h (lrm ((j5 + i6.toInt64) - j8) i9.toInt64) (((8:Int32) * x6) + x7) a1 x0 x1 x2 x3 x5 x6 x7 hf
def fM_share_98 (k63 : (MH × Nat × Int32 × Int32 × Int32 × Int32 × Int32) → Option (MH × Int32)) (k73 : (MH × Nat × Int32 × Int32 × Int32 × Int32 × Int32 × Int32) → Option (MH × Int32)) (n : Nat) (h : MH) (x0 : Nat) (x1 : Int32) (x2 : Int32) (x3 : Int32) (x5 : Int32) (x6 : Int32) (x7 : Int32) : Option (MH × Int32) := (fM_share_99 k63 k73 n h (0:Int32) x0 x1 x2 x3 x5 x6 x7)
set_option maxRecDepth 20000 in
set_option maxHeartbeats 4000000 in
theorem tM_share_98 {g : Gh} {h' : MH} {r' : Int32} {k63 : (MH × Nat × Int32 × Int32 × Int32 × Int32 × Int32) → Option (MH × Int32)} {k73 : (MH × Nat × Int32 × Int32 × Int32 × Int32 × Int32 × Int32) → Option (MH × Int32)} (hk63 : ∀ (h : MH) (x0 : Nat) (x1 : Int32) (x2 : Int32) (x3 : Int32) (x5 : Int32) (x6 : Int32), k63 (h, x0, x1, x2, x3, x5, x6) = some (h', r') → V g yM_share cM_share 12 (some .int) rmM_share (ZQ g rmM_share h' (some (.int r'))) 0 0 h 63 [some (.ref x0), some (.int x1), some (.int x2), some (.int x3), none, some (.int x5), some (.int x6), none, none, none, none, none] []) (hk73 : ∀ (h : MH) (x0 : Nat) (x1 : Int32) (x2 : Int32) (x3 : Int32) (x5 : Int32) (x6 : Int32) (x7 : Int32), k73 (h, x0, x1, x2, x3, x5, x6, x7) = some (h', r') → V g yM_share cM_share 12 (some .int) rmM_share (ZQ g rmM_share h' (some (.int r'))) 0 0 h 73 [some (.ref x0), some (.int x1), some (.int x2), some (.int x3), none, some (.int x5), some (.int x6), some (.int x7), none, none, none, none] []) (n : Nat) (h : MH) (x0 : Nat) (x1 : Int32) (x2 : Int32) (x3 : Int32) (x5 : Int32) (x6 : Int32) (x7 : Int32) (hf : fM_share_98 k63 k73 n h x0 x1 x2 x3 x5 x6 x7 = some (h', r')) : V g yM_share cM_share 12 (some .int) rmM_share (ZQ g rmM_share h' (some (.int r'))) 0 0 h 98 [some (.ref x0), some (.int x1), some (.int x2), some (.int x3), none, some (.int x5), some (.int x6), some (.int x7), none, none, none, none] [] := by
  unfold fM_share_98 at hf
  refine v_iconst (pc := 98) (0:Int32) dM_share_98 rfl ?_
  refine v_wk (ls' := [some (.ref x0), some (.int x1), some (.int x2), some (.int x3), none, some (.int x5), some (.int x6), some (.int x7), none, none, none, none]) ⟨rfl, rfl, rfl, rfl, rfl, rfl, rfl, trivial⟩ ?_
  exact tM_share_99 hk63 hk73 n h (0:Int32) x0 x1 x2 x3 x5 x6 x7 hf
def bM_share_73 (k63 : (MH × Nat × Int32 × Int32 × Int32 × Int32 × Int32) → Option (MH × Int32)) (n : Nat) (k73 : (MH × Nat × Int32 × Int32 × Int32 × Int32 × Int32 × Int32) → Option (MH × Int32)) (h : MH) (x0 : Nat) (x1 : Int32) (x2 : Int32) (x3 : Int32) (x5 : Int32) (x6 : Int32) (x7 : Int32) : Option (MH × Int32) := (if (8:Int32) ≤ x7 then (k63 (h, x0, x1, x2, x3, x5, (x6 + (1:Int32)))) else (if x5 ≤ x6 then (fM_share_98 k63 k73 n h x0 x1 x2 x3 x5 x6 x7) else (if x5 ≤ x7 then (fM_share_98 k63 k73 n h x0 x1 x2 x3 x5 x6 x7) else (fM_share_99 k63 k73 n h (1:Int32) x0 x1 x2 x3 x5 x6 x7))))
def fM_share_73 (k63 : (MH × Nat × Int32 × Int32 × Int32 × Int32 × Int32) → Option (MH × Int32)) (n : Nat) (h : MH) (x0 : Nat) (x1 : Int32) (x2 : Int32) (x3 : Int32) (x5 : Int32) (x6 : Int32) (x7 : Int32) : Option (MH × Int32) := lp (fun n k s => bM_share_73 k63 n k s.1 s.2.1 s.2.2.1 s.2.2.2.1 s.2.2.2.2.1 s.2.2.2.2.2.1 s.2.2.2.2.2.2.1 s.2.2.2.2.2.2.2) n (h, x0, x1, x2, x3, x5, x6, x7)
set_option maxRecDepth 20000 in
set_option maxHeartbeats 4000000 in
theorem tM_share_73 {g : Gh} {h' : MH} {r' : Int32} {k63 : (MH × Nat × Int32 × Int32 × Int32 × Int32 × Int32) → Option (MH × Int32)} (hk63 : ∀ (h : MH) (x0 : Nat) (x1 : Int32) (x2 : Int32) (x3 : Int32) (x5 : Int32) (x6 : Int32), k63 (h, x0, x1, x2, x3, x5, x6) = some (h', r') → V g yM_share cM_share 12 (some .int) rmM_share (ZQ g rmM_share h' (some (.int r'))) 0 0 h 63 [some (.ref x0), some (.int x1), some (.int x2), some (.int x3), none, some (.int x5), some (.int x6), none, none, none, none, none] []) (n : Nat) (h : MH) (x0 : Nat) (x1 : Int32) (x2 : Int32) (x3 : Int32) (x5 : Int32) (x6 : Int32) (x7 : Int32) (hf : fM_share_73 k63 n h x0 x1 x2 x3 x5 x6 x7 = some (h', r')) : V g yM_share cM_share 12 (some .int) rmM_share (ZQ g rmM_share h' (some (.int r'))) 0 0 h 73 [some (.ref x0), some (.int x1), some (.int x2), some (.int x3), none, some (.int x5), some (.int x6), some (.int x7), none, none, none, none] [] := by
  unfold fM_share_73 at hf
  refine lp_ind (P := fun s => V g yM_share cM_share 12 (some .int) rmM_share (ZQ g rmM_share h' (some (.int r'))) 0 0 s.1 73 [some (.ref s.2.1), some (.int s.2.2.1), some (.int s.2.2.2.1), some (.int s.2.2.2.2.1), none, some (.int s.2.2.2.2.2.1), some (.int s.2.2.2.2.2.2.1), some (.int s.2.2.2.2.2.2.2), none, none, none, none] []) (fun n k73 hk73 s hf => ?_) n (h, x0, x1, x2, x3, x5, x6, x7) hf
  obtain ⟨h, x0, x1, x2, x3, x5, x6, x7⟩ := s
  replace hk73 : ∀ (h : MH) (x0 : Nat) (x1 : Int32) (x2 : Int32) (x3 : Int32) (x5 : Int32) (x6 : Int32) (x7 : Int32), k73 (h, x0, x1, x2, x3, x5, x6, x7) = some (h', r') → V g yM_share cM_share 12 (some .int) rmM_share (ZQ g rmM_share h' (some (.int r'))) 0 0 h 73 [some (.ref x0), some (.int x1), some (.int x2), some (.int x3), none, some (.int x5), some (.int x6), some (.int x7), none, none, none, none] [] := fun h x0 x1 x2 x3 x5 x6 x7 => hk73 (h, x0, x1, x2, x3, x5, x6, x7)
  replace hf : bM_share_73 k63 n k73 h x0 x1 x2 x3 x5 x6 x7 = some (h', r') := hf
  change V g yM_share cM_share 12 (some .int) rmM_share (ZQ g rmM_share h' (some (.int r'))) 0 0 h 73 [some (.ref x0), some (.int x1), some (.int x2), some (.int x3), none, some (.int x5), some (.int x6), some (.int x7), none, none, none, none] []
  unfold bM_share_73 at hf
  refine v_iload (pc := 73) dM_share_73 rfl ?_
  refine v_bipush (pc := 75) (8:Int32) dM_share_75 rfl ?_
  refine v_icmp_ge (pc := 77) (tgt := 222) dM_share_77 rfl hf (fun hf => ?_) (fun hf => ?_)
  · refine v_iinc (pc := 222) (v := (x6 + (1:Int32))) (ls' := [some (.ref x0), some (.int x1), some (.int x2), some (.int x3), none, some (.int x5), some (.int (x6 + (1:Int32))), some (.int x7), none, none, none, none]) dM_share_222 rfl rfl (by decide) rfl ?_
    refine v_goto (pc := 225) (tgt := 63) dM_share_225 rfl ?_
    refine v_wk (ls' := [some (.ref x0), some (.int x1), some (.int x2), some (.int x3), none, some (.int x5), some (.int (x6 + (1:Int32))), none, none, none, none, none]) ⟨rfl, rfl, rfl, rfl, rfl, rfl, trivial⟩ ?_
    exact hk63 h x0 x1 x2 x3 x5 (x6 + (1:Int32)) hf
  refine v_iload (pc := 80) dM_share_80 rfl ?_
  refine v_iload (pc := 82) dM_share_82 rfl ?_
  refine v_icmp_ge (pc := 84) (tgt := 98) dM_share_84 rfl hf (fun hf => ?_) (fun hf => ?_)
  · refine v_wk (ls' := [some (.ref x0), some (.int x1), some (.int x2), some (.int x3), none, some (.int x5), some (.int x6), some (.int x7), none, none, none, none]) ⟨rfl, rfl, rfl, rfl, rfl, rfl, rfl, trivial⟩ ?_
    exact tM_share_98 hk63 hk73 n h x0 x1 x2 x3 x5 x6 x7 hf
  refine v_iload (pc := 87) dM_share_87 rfl ?_
  refine v_iload (pc := 89) dM_share_89 rfl ?_
  refine v_icmp_ge (pc := 91) (tgt := 98) dM_share_91 rfl hf (fun hf => ?_) (fun hf => ?_)
  · refine v_wk (ls' := [some (.ref x0), some (.int x1), some (.int x2), some (.int x3), none, some (.int x5), some (.int x6), some (.int x7), none, none, none, none]) ⟨rfl, rfl, rfl, rfl, rfl, rfl, rfl, trivial⟩ ?_
    exact tM_share_98 hk63 hk73 n h x0 x1 x2 x3 x5 x6 x7 hf
  refine v_iconst (pc := 94) (1:Int32) dM_share_94 rfl ?_
  refine v_goto (pc := 95) (tgt := 99) dM_share_95 rfl ?_
  refine v_wk (ls' := [some (.ref x0), some (.int x1), some (.int x2), some (.int x3), none, some (.int x5), some (.int x6), some (.int x7), none, none, none, none]) ⟨rfl, rfl, rfl, rfl, rfl, rfl, rfl, trivial⟩ ?_
  exact tM_share_99 hk63 hk73 n h (1:Int32) x0 x1 x2 x3 x5 x6 x7 hf
def bM_share_271 (k238 : (MH × Nat × Int32 × Int32 × Int32) → Option (MH × Int32)) (k248 : (MH × Nat × Int32 × Int32 × Int32 × Int32) → Option (MH × Int32)) (k258 : (MH × Nat × Int32 × Int32 × Int32 × Int32 × Int32) → Option (MH × Int32)) (n : Nat) (k271 : (MH × Nat × Int32 × Int32 × Int32 × Int32 × Int32 × Int64 × Int32) → Option (MH × Int32)) (h : MH) (x0 : Nat) (x3 : Int32) (x5 : Int32) (x6 : Int32) (x7 : Int32) (x8 : Int32) (x9 : Int64) (x11 : Int32) : Option (MH × Int32) := (if (8:Int32) ≤ x11 then ((gfR h x0 [12] 17).bind fun a1 => ((wrL h a1 (((8:Int32) * x7) + x8) x9).bind fun h2 => (k258 (h2, x0, x3, x5, x6, x7, (x8 + (1:Int32)))))) else ((gfR h x0 [12] 16).bind fun a3 => ((rdL h a3 (((8:Int32) * x7) + x11)).bind fun j4 => ((gfR h x0 [12] 15).bind fun a5 => ((rdL h a5 (((8:Int32) * x11) + x8)).bind fun j6 => ((gfI h x0 [12] 2).bind fun i7 => (nzL i7.toInt64 (k271 (h, x0, x3, x5, x6, x7, x8, (lrm (x9 + (j4 * j6)) i7.toInt64), (x11 + (1:Int32)))))))))))
def fM_share_271 (k238 : (MH × Nat × Int32 × Int32 × Int32) → Option (MH × Int32)) (k248 : (MH × Nat × Int32 × Int32 × Int32 × Int32) → Option (MH × Int32)) (k258 : (MH × Nat × Int32 × Int32 × Int32 × Int32 × Int32) → Option (MH × Int32)) (n : Nat) (h : MH) (x0 : Nat) (x3 : Int32) (x5 : Int32) (x6 : Int32) (x7 : Int32) (x8 : Int32) (x9 : Int64) (x11 : Int32) : Option (MH × Int32) := lp (fun n k s => bM_share_271 k238 k248 k258 n k s.1 s.2.1 s.2.2.1 s.2.2.2.1 s.2.2.2.2.1 s.2.2.2.2.2.1 s.2.2.2.2.2.2.1 s.2.2.2.2.2.2.2.1 s.2.2.2.2.2.2.2.2) n (h, x0, x3, x5, x6, x7, x8, x9, x11)
set_option maxRecDepth 20000 in
set_option maxHeartbeats 4000000 in
theorem tM_share_271 {g : Gh} {h' : MH} {r' : Int32} {k238 : (MH × Nat × Int32 × Int32 × Int32) → Option (MH × Int32)} {k248 : (MH × Nat × Int32 × Int32 × Int32 × Int32) → Option (MH × Int32)} {k258 : (MH × Nat × Int32 × Int32 × Int32 × Int32 × Int32) → Option (MH × Int32)} (hk238 : ∀ (h : MH) (x0 : Nat) (x3 : Int32) (x5 : Int32) (x6 : Int32), k238 (h, x0, x3, x5, x6) = some (h', r') → V g yM_share cM_share 12 (some .int) rmM_share (ZQ g rmM_share h' (some (.int r'))) 0 0 h 238 [some (.ref x0), none, none, some (.int x3), none, some (.int x5), some (.int x6), none, none, none, none, none] []) (hk248 : ∀ (h : MH) (x0 : Nat) (x3 : Int32) (x5 : Int32) (x6 : Int32) (x7 : Int32), k248 (h, x0, x3, x5, x6, x7) = some (h', r') → V g yM_share cM_share 12 (some .int) rmM_share (ZQ g rmM_share h' (some (.int r'))) 0 0 h 248 [some (.ref x0), none, none, some (.int x3), none, some (.int x5), some (.int x6), some (.int x7), none, none, none, none] []) (hk258 : ∀ (h : MH) (x0 : Nat) (x3 : Int32) (x5 : Int32) (x6 : Int32) (x7 : Int32) (x8 : Int32), k258 (h, x0, x3, x5, x6, x7, x8) = some (h', r') → V g yM_share cM_share 12 (some .int) rmM_share (ZQ g rmM_share h' (some (.int r'))) 0 0 h 258 [some (.ref x0), none, none, some (.int x3), none, some (.int x5), some (.int x6), some (.int x7), some (.int x8), none, none, none] []) (n : Nat) (h : MH) (x0 : Nat) (x3 : Int32) (x5 : Int32) (x6 : Int32) (x7 : Int32) (x8 : Int32) (x9 : Int64) (x11 : Int32) (hf : fM_share_271 k238 k248 k258 n h x0 x3 x5 x6 x7 x8 x9 x11 = some (h', r')) : V g yM_share cM_share 12 (some .int) rmM_share (ZQ g rmM_share h' (some (.int r'))) 0 0 h 271 [some (.ref x0), none, none, some (.int x3), none, some (.int x5), some (.int x6), some (.int x7), some (.int x8), some (.long x9), none, some (.int x11)] [] := by
  unfold fM_share_271 at hf
  refine lp_ind (P := fun s => V g yM_share cM_share 12 (some .int) rmM_share (ZQ g rmM_share h' (some (.int r'))) 0 0 s.1 271 [some (.ref s.2.1), none, none, some (.int s.2.2.1), none, some (.int s.2.2.2.1), some (.int s.2.2.2.2.1), some (.int s.2.2.2.2.2.1), some (.int s.2.2.2.2.2.2.1), some (.long s.2.2.2.2.2.2.2.1), none, some (.int s.2.2.2.2.2.2.2.2)] []) (fun n k271 hk271 s hf => ?_) n (h, x0, x3, x5, x6, x7, x8, x9, x11) hf
  obtain ⟨h, x0, x3, x5, x6, x7, x8, x9, x11⟩ := s
  replace hk271 : ∀ (h : MH) (x0 : Nat) (x3 : Int32) (x5 : Int32) (x6 : Int32) (x7 : Int32) (x8 : Int32) (x9 : Int64) (x11 : Int32), k271 (h, x0, x3, x5, x6, x7, x8, x9, x11) = some (h', r') → V g yM_share cM_share 12 (some .int) rmM_share (ZQ g rmM_share h' (some (.int r'))) 0 0 h 271 [some (.ref x0), none, none, some (.int x3), none, some (.int x5), some (.int x6), some (.int x7), some (.int x8), some (.long x9), none, some (.int x11)] [] := fun h x0 x3 x5 x6 x7 x8 x9 x11 => hk271 (h, x0, x3, x5, x6, x7, x8, x9, x11)
  replace hf : bM_share_271 k238 k248 k258 n k271 h x0 x3 x5 x6 x7 x8 x9 x11 = some (h', r') := hf
  change V g yM_share cM_share 12 (some .int) rmM_share (ZQ g rmM_share h' (some (.int r'))) 0 0 h 271 [some (.ref x0), none, none, some (.int x3), none, some (.int x5), some (.int x6), some (.int x7), some (.int x8), some (.long x9), none, some (.int x11)] []
  unfold bM_share_271 at hf
  refine v_iload (pc := 271) dM_share_271 rfl ?_
  refine v_bipush (pc := 273) (8:Int32) dM_share_273 rfl ?_
  refine v_icmp_ge (pc := 275) (tgt := 322) dM_share_275 rfl hf (fun hf => ?_) (fun hf => ?_)
  · refine v_aload_n (i := 0) (pc := 322) dM_share_322 rfl rfl ?_
    refine v_getR (pc := 323) fgM_58 dM_share_323 hf (fun a1 hf => ?_)
    refine v_bipush (pc := 326) (8:Int32) dM_share_326 rfl ?_
    refine v_iload (pc := 328) dM_share_328 rfl ?_
    refine v_imul (pc := 330) dM_share_330 ?_
    refine v_iload (pc := 331) dM_share_331 rfl ?_
    refine v_iadd (pc := 333) dM_share_333 ?_
    refine v_lload (pc := 334) dM_share_334 rfl ?_
    refine v_last (pc := 336) dM_share_336 hf (fun h2 hf => ?_)
    refine v_iinc (pc := 337) (v := (x8 + (1:Int32))) (ls' := [some (.ref x0), none, none, some (.int x3), none, some (.int x5), some (.int x6), some (.int x7), some (.int (x8 + (1:Int32))), some (.long x9), none, some (.int x11)]) dM_share_337 rfl rfl (by decide) rfl ?_
    refine v_goto (pc := 340) (tgt := 258) dM_share_340 rfl ?_
    refine v_wk (ls' := [some (.ref x0), none, none, some (.int x3), none, some (.int x5), some (.int x6), some (.int x7), some (.int (x8 + (1:Int32))), none, none, none]) ⟨rfl, rfl, rfl, rfl, rfl, rfl, trivial⟩ ?_
    exact hk258 h2 x0 x3 x5 x6 x7 (x8 + (1:Int32)) hf
  refine v_lload (pc := 278) dM_share_278 rfl ?_
  refine v_aload_n (i := 0) (pc := 280) dM_share_280 rfl rfl ?_
  refine v_getR (pc := 281) fgM_55 dM_share_281 hf (fun a3 hf => ?_)
  refine v_bipush (pc := 284) (8:Int32) dM_share_284 rfl ?_
  refine v_iload (pc := 286) dM_share_286 rfl ?_
  refine v_imul (pc := 288) dM_share_288 ?_
  refine v_iload (pc := 289) dM_share_289 rfl ?_
  refine v_iadd (pc := 291) dM_share_291 ?_
  refine v_lald (pc := 292) dM_share_292 hf (fun j4 hf => ?_)
  refine v_aload_n (i := 0) (pc := 293) dM_share_293 rfl rfl ?_
  refine v_getR (pc := 294) fgM_52 dM_share_294 hf (fun a5 hf => ?_)
  refine v_bipush (pc := 297) (8:Int32) dM_share_297 rfl ?_
  refine v_iload (pc := 299) dM_share_299 rfl ?_
  refine v_imul (pc := 301) dM_share_301 ?_
  refine v_iload (pc := 302) dM_share_302 rfl ?_
  refine v_iadd (pc := 304) dM_share_304 ?_
  refine v_lald (pc := 305) dM_share_305 hf (fun j6 hf => ?_)
  refine v_lmul (pc := 306) dM_share_306 ?_
  refine v_ladd (pc := 307) dM_share_307 ?_
  refine v_aload_n (i := 0) (pc := 308) dM_share_308 rfl rfl ?_
  refine v_getI (pc := 309) fgM_80 dM_share_309 hf (fun i7 hf => ?_)
  refine v_i2l (pc := 312) dM_share_312 ?_
  obtain ⟨z8, hf⟩ := nzL_of hf
  refine v_lrem (pc := 313) dM_share_313 z8 ?_
  refine v_lstore (pc := 314) (ls' := [some (.ref x0), none, none, some (.int x3), none, some (.int x5), some (.int x6), some (.int x7), some (.int x8), some (.long (lrm (x9 + (j4 * j6)) i7.toInt64)), none, some (.int x11)]) dM_share_314 (by decide) rfl ?_
  refine v_iinc (pc := 316) (v := (x11 + (1:Int32))) (ls' := [some (.ref x0), none, none, some (.int x3), none, some (.int x5), some (.int x6), some (.int x7), some (.int x8), some (.long (lrm (x9 + (j4 * j6)) i7.toInt64)), none, some (.int (x11 + (1:Int32)))]) dM_share_316 rfl rfl (by decide) rfl ?_
  refine v_goto (pc := 319) (tgt := 271) dM_share_319 rfl ?_
  refine v_wk (ls' := [some (.ref x0), none, none, some (.int x3), none, some (.int x5), some (.int x6), some (.int x7), some (.int x8), some (.long (lrm (x9 + (j4 * j6)) i7.toInt64)), none, some (.int (x11 + (1:Int32)))]) ⟨rfl, rfl, rfl, rfl, rfl, rfl, rfl, rfl, trivial⟩ ?_
  exact hk271 h x0 x3 x5 x6 x7 x8 (lrm (x9 + (j4 * j6)) i7.toInt64) (x11 + (1:Int32)) hf
def bM_share_258 (k238 : (MH × Nat × Int32 × Int32 × Int32) → Option (MH × Int32)) (k248 : (MH × Nat × Int32 × Int32 × Int32 × Int32) → Option (MH × Int32)) (n : Nat) (k258 : (MH × Nat × Int32 × Int32 × Int32 × Int32 × Int32) → Option (MH × Int32)) (h : MH) (x0 : Nat) (x3 : Int32) (x5 : Int32) (x6 : Int32) (x7 : Int32) (x8 : Int32) : Option (MH × Int32) := (if (8:Int32) ≤ x8 then (k248 (h, x0, x3, x5, x6, (x7 + (1:Int32)))) else (fM_share_271 k238 k248 k258 n h x0 x3 x5 x6 x7 x8 (0:Int64) (0:Int32)))
def fM_share_258 (k238 : (MH × Nat × Int32 × Int32 × Int32) → Option (MH × Int32)) (k248 : (MH × Nat × Int32 × Int32 × Int32 × Int32) → Option (MH × Int32)) (n : Nat) (h : MH) (x0 : Nat) (x3 : Int32) (x5 : Int32) (x6 : Int32) (x7 : Int32) (x8 : Int32) : Option (MH × Int32) := lp (fun n k s => bM_share_258 k238 k248 n k s.1 s.2.1 s.2.2.1 s.2.2.2.1 s.2.2.2.2.1 s.2.2.2.2.2.1 s.2.2.2.2.2.2) n (h, x0, x3, x5, x6, x7, x8)
set_option maxRecDepth 20000 in
set_option maxHeartbeats 4000000 in
theorem tM_share_258 {g : Gh} {h' : MH} {r' : Int32} {k238 : (MH × Nat × Int32 × Int32 × Int32) → Option (MH × Int32)} {k248 : (MH × Nat × Int32 × Int32 × Int32 × Int32) → Option (MH × Int32)} (hk238 : ∀ (h : MH) (x0 : Nat) (x3 : Int32) (x5 : Int32) (x6 : Int32), k238 (h, x0, x3, x5, x6) = some (h', r') → V g yM_share cM_share 12 (some .int) rmM_share (ZQ g rmM_share h' (some (.int r'))) 0 0 h 238 [some (.ref x0), none, none, some (.int x3), none, some (.int x5), some (.int x6), none, none, none, none, none] []) (hk248 : ∀ (h : MH) (x0 : Nat) (x3 : Int32) (x5 : Int32) (x6 : Int32) (x7 : Int32), k248 (h, x0, x3, x5, x6, x7) = some (h', r') → V g yM_share cM_share 12 (some .int) rmM_share (ZQ g rmM_share h' (some (.int r'))) 0 0 h 248 [some (.ref x0), none, none, some (.int x3), none, some (.int x5), some (.int x6), some (.int x7), none, none, none, none] []) (n : Nat) (h : MH) (x0 : Nat) (x3 : Int32) (x5 : Int32) (x6 : Int32) (x7 : Int32) (x8 : Int32) (hf : fM_share_258 k238 k248 n h x0 x3 x5 x6 x7 x8 = some (h', r')) : V g yM_share cM_share 12 (some .int) rmM_share (ZQ g rmM_share h' (some (.int r'))) 0 0 h 258 [some (.ref x0), none, none, some (.int x3), none, some (.int x5), some (.int x6), some (.int x7), some (.int x8), none, none, none] [] := by
  unfold fM_share_258 at hf
  refine lp_ind (P := fun s => V g yM_share cM_share 12 (some .int) rmM_share (ZQ g rmM_share h' (some (.int r'))) 0 0 s.1 258 [some (.ref s.2.1), none, none, some (.int s.2.2.1), none, some (.int s.2.2.2.1), some (.int s.2.2.2.2.1), some (.int s.2.2.2.2.2.1), some (.int s.2.2.2.2.2.2), none, none, none] []) (fun n k258 hk258 s hf => ?_) n (h, x0, x3, x5, x6, x7, x8) hf
  obtain ⟨h, x0, x3, x5, x6, x7, x8⟩ := s
  replace hk258 : ∀ (h : MH) (x0 : Nat) (x3 : Int32) (x5 : Int32) (x6 : Int32) (x7 : Int32) (x8 : Int32), k258 (h, x0, x3, x5, x6, x7, x8) = some (h', r') → V g yM_share cM_share 12 (some .int) rmM_share (ZQ g rmM_share h' (some (.int r'))) 0 0 h 258 [some (.ref x0), none, none, some (.int x3), none, some (.int x5), some (.int x6), some (.int x7), some (.int x8), none, none, none] [] := fun h x0 x3 x5 x6 x7 x8 => hk258 (h, x0, x3, x5, x6, x7, x8)
  replace hf : bM_share_258 k238 k248 n k258 h x0 x3 x5 x6 x7 x8 = some (h', r') := hf
  change V g yM_share cM_share 12 (some .int) rmM_share (ZQ g rmM_share h' (some (.int r'))) 0 0 h 258 [some (.ref x0), none, none, some (.int x3), none, some (.int x5), some (.int x6), some (.int x7), some (.int x8), none, none, none] []
  unfold bM_share_258 at hf
  refine v_iload (pc := 258) dM_share_258 rfl ?_
  refine v_bipush (pc := 260) (8:Int32) dM_share_260 rfl ?_
  refine v_icmp_ge (pc := 262) (tgt := 343) dM_share_262 rfl hf (fun hf => ?_) (fun hf => ?_)
  · refine v_iinc (pc := 343) (v := (x7 + (1:Int32))) (ls' := [some (.ref x0), none, none, some (.int x3), none, some (.int x5), some (.int x6), some (.int (x7 + (1:Int32))), some (.int x8), none, none, none]) dM_share_343 rfl rfl (by decide) rfl ?_
    refine v_goto (pc := 346) (tgt := 248) dM_share_346 rfl ?_
    refine v_wk (ls' := [some (.ref x0), none, none, some (.int x3), none, some (.int x5), some (.int x6), some (.int (x7 + (1:Int32))), none, none, none, none]) ⟨rfl, rfl, rfl, rfl, rfl, trivial⟩ ?_
    exact hk248 h x0 x3 x5 x6 (x7 + (1:Int32)) hf
  refine v_lconst (pc := 265) (0:Int64) dM_share_265 rfl ?_
  refine v_lstore (pc := 266) (ls' := [some (.ref x0), none, none, some (.int x3), none, some (.int x5), some (.int x6), some (.int x7), some (.int x8), some (.long (0:Int64)), none, none]) dM_share_266 (by decide) rfl ?_
  refine v_iconst (pc := 268) (0:Int32) dM_share_268 rfl ?_
  refine v_istore (pc := 269) (ls' := [some (.ref x0), none, none, some (.int x3), none, some (.int x5), some (.int x6), some (.int x7), some (.int x8), some (.long (0:Int64)), none, some (.int (0:Int32))]) dM_share_269 (by decide) rfl ?_
  refine v_wk (ls' := [some (.ref x0), none, none, some (.int x3), none, some (.int x5), some (.int x6), some (.int x7), some (.int x8), some (.long (0:Int64)), none, some (.int (0:Int32))]) ⟨rfl, rfl, rfl, rfl, rfl, rfl, rfl, rfl, trivial⟩ ?_
  exact tM_share_271 hk238 hk248 hk258 n h x0 x3 x5 x6 x7 x8 (0:Int64) (0:Int32) hf
def fM_share_418 (k238 : (MH × Nat × Int32 × Int32 × Int32) → Option (MH × Int32)) (k360 : (MH × Nat × Int32 × Int32 × Int32 × Int32) → Option (MH × Int32)) (n : Nat) (h : MH) (s0 : Int64) (s1 : Int64) (s2 : Int32) (s3 : Nat) (x0 : Nat) (x3 : Int32) (x5 : Int32) (x6 : Int32) (x7 : Int32) : Option (MH × Int32) := ((gfI h x0 [12] 2).bind fun i1 => (nzL i1.toInt64 ((wrL h s3 s2 (lrm (s1 + s0) i1.toInt64)).bind fun h2 => (k360 (h2, x0, x3, x5, x6, (x7 + (1:Int32)))))))
set_option maxRecDepth 20000 in
set_option maxHeartbeats 4000000 in
theorem tM_share_418 {g : Gh} {h' : MH} {r' : Int32} {k238 : (MH × Nat × Int32 × Int32 × Int32) → Option (MH × Int32)} {k360 : (MH × Nat × Int32 × Int32 × Int32 × Int32) → Option (MH × Int32)} (hk238 : ∀ (h : MH) (x0 : Nat) (x3 : Int32) (x5 : Int32) (x6 : Int32), k238 (h, x0, x3, x5, x6) = some (h', r') → V g yM_share cM_share 12 (some .int) rmM_share (ZQ g rmM_share h' (some (.int r'))) 0 0 h 238 [some (.ref x0), none, none, some (.int x3), none, some (.int x5), some (.int x6), none, none, none, none, none] []) (hk360 : ∀ (h : MH) (x0 : Nat) (x3 : Int32) (x5 : Int32) (x6 : Int32) (x7 : Int32), k360 (h, x0, x3, x5, x6, x7) = some (h', r') → V g yM_share cM_share 12 (some .int) rmM_share (ZQ g rmM_share h' (some (.int r'))) 0 0 h 360 [some (.ref x0), none, none, some (.int x3), none, some (.int x5), some (.int x6), some (.int x7), none, none, none, none] []) (n : Nat) (h : MH) (s0 : Int64) (s1 : Int64) (s2 : Int32) (s3 : Nat) (x0 : Nat) (x3 : Int32) (x5 : Int32) (x6 : Int32) (x7 : Int32) (hf : fM_share_418 k238 k360 n h s0 s1 s2 s3 x0 x3 x5 x6 x7 = some (h', r')) : V g yM_share cM_share 12 (some .int) rmM_share (ZQ g rmM_share h' (some (.int r'))) 0 0 h 418 [some (.ref x0), none, none, some (.int x3), none, some (.int x5), some (.int x6), some (.int x7), none, none, none, none] [.long s0, .long s1, .int s2, .ref s3] := by
  unfold fM_share_418 at hf
  refine v_ladd (pc := 418) dM_share_418 ?_
  refine v_aload_n (i := 0) (pc := 419) dM_share_419 rfl rfl ?_
  refine v_getI (pc := 420) fgM_80 dM_share_420 hf (fun i1 hf => ?_)
  refine v_i2l (pc := 423) dM_share_423 ?_
  obtain ⟨z3, hf⟩ := nzL_of hf
  refine v_lrem (pc := 424) dM_share_424 z3 ?_
  refine v_last (pc := 425) dM_share_425 hf (fun h2 hf => ?_)
  refine v_iinc (pc := 426) (v := (x7 + (1:Int32))) (ls' := [some (.ref x0), none, none, some (.int x3), none, some (.int x5), some (.int x6), some (.int (x7 + (1:Int32))), none, none, none, none]) dM_share_426 rfl rfl (by decide) rfl ?_
  refine v_goto (pc := 429) (tgt := 360) dM_share_429 rfl ?_
  refine v_wk (ls' := [some (.ref x0), none, none, some (.int x3), none, some (.int x5), some (.int x6), some (.int (x7 + (1:Int32))), none, none, none, none]) ⟨rfl, rfl, rfl, rfl, rfl, trivial⟩ ?_
  exact hk360 h2 x0 x3 x5 x6 (x7 + (1:Int32)) hf
def bM_share_438 (k238 : (MH × Nat × Int32 × Int32 × Int32) → Option (MH × Int32)) (n : Nat) (k438 : (MH × Nat × Int32 × Int32 × Int32 × Int64 × Int32) → Option (MH × Int32)) (h : MH) (x0 : Nat) (x3 : Int32) (x5 : Int32) (x6 : Int32) (x7 : Int64) (x9 : Int32) : Option (MH × Int32) := (if x6 < x9 then ((gfR h x0 [12] 19).bind fun a1 => ((gfI h x0 [12] 2).bind fun i2 => ((gfI h x0 [12] 2).bind fun i3 => (nzL i3.toInt64 ((chk h x0 12).bind fun _ => (bnd2 (fM_inverse n h x0 x6.toInt64) fun h4 j5 => ((gfI h4 x0 [12] 2).bind fun i6 => (nzL i6.toInt64 ((wrL h4 a1 x6 (lrm ((lrm (i2.toInt64 - x7) i3.toInt64) * j5) i6.toInt64)).bind fun h7 => (k238 (h7, x0, x3, x5, (x6 + (1:Int32))))))))))))) else ((gfR h x0 [12] 19).bind fun a12 => ((rdL h a12 (x6 - x9)).bind fun j13 => ((gfR h x0 [12] 18).bind fun a14 => ((rdL h a14 x9).bind fun j15 => ((gfI h x0 [12] 2).bind fun i16 => (nzL i16.toInt64 (k438 (h, x0, x3, x5, x6, (lrm (x7 + (j13 * j15)) i16.toInt64), (x9 + (1:Int32)))))))))))
def fM_share_438 (k238 : (MH × Nat × Int32 × Int32 × Int32) → Option (MH × Int32)) (n : Nat) (h : MH) (x0 : Nat) (x3 : Int32) (x5 : Int32) (x6 : Int32) (x7 : Int64) (x9 : Int32) : Option (MH × Int32) := lp (fun n k s => bM_share_438 k238 n k s.1 s.2.1 s.2.2.1 s.2.2.2.1 s.2.2.2.2.1 s.2.2.2.2.2.1 s.2.2.2.2.2.2) n (h, x0, x3, x5, x6, x7, x9)
set_option maxRecDepth 20000 in
set_option maxHeartbeats 4000000 in
theorem tM_share_438 {g : Gh} {h' : MH} {r' : Int32} {k238 : (MH × Nat × Int32 × Int32 × Int32) → Option (MH × Int32)} (hk238 : ∀ (h : MH) (x0 : Nat) (x3 : Int32) (x5 : Int32) (x6 : Int32), k238 (h, x0, x3, x5, x6) = some (h', r') → V g yM_share cM_share 12 (some .int) rmM_share (ZQ g rmM_share h' (some (.int r'))) 0 0 h 238 [some (.ref x0), none, none, some (.int x3), none, some (.int x5), some (.int x6), none, none, none, none, none] []) (n : Nat) (h : MH) (x0 : Nat) (x3 : Int32) (x5 : Int32) (x6 : Int32) (x7 : Int64) (x9 : Int32) (hf : fM_share_438 k238 n h x0 x3 x5 x6 x7 x9 = some (h', r')) : V g yM_share cM_share 12 (some .int) rmM_share (ZQ g rmM_share h' (some (.int r'))) 0 0 h 438 [some (.ref x0), none, none, some (.int x3), none, some (.int x5), some (.int x6), some (.long x7), none, some (.int x9), none, none] [] := by
  unfold fM_share_438 at hf
  refine lp_ind (P := fun s => V g yM_share cM_share 12 (some .int) rmM_share (ZQ g rmM_share h' (some (.int r'))) 0 0 s.1 438 [some (.ref s.2.1), none, none, some (.int s.2.2.1), none, some (.int s.2.2.2.1), some (.int s.2.2.2.2.1), some (.long s.2.2.2.2.2.1), none, some (.int s.2.2.2.2.2.2), none, none] []) (fun n k438 hk438 s hf => ?_) n (h, x0, x3, x5, x6, x7, x9) hf
  obtain ⟨h, x0, x3, x5, x6, x7, x9⟩ := s
  replace hk438 : ∀ (h : MH) (x0 : Nat) (x3 : Int32) (x5 : Int32) (x6 : Int32) (x7 : Int64) (x9 : Int32), k438 (h, x0, x3, x5, x6, x7, x9) = some (h', r') → V g yM_share cM_share 12 (some .int) rmM_share (ZQ g rmM_share h' (some (.int r'))) 0 0 h 438 [some (.ref x0), none, none, some (.int x3), none, some (.int x5), some (.int x6), some (.long x7), none, some (.int x9), none, none] [] := fun h x0 x3 x5 x6 x7 x9 => hk438 (h, x0, x3, x5, x6, x7, x9)
  replace hf : bM_share_438 k238 n k438 h x0 x3 x5 x6 x7 x9 = some (h', r') := hf
  change V g yM_share cM_share 12 (some .int) rmM_share (ZQ g rmM_share h' (some (.int r'))) 0 0 h 438 [some (.ref x0), none, none, some (.int x3), none, some (.int x5), some (.int x6), some (.long x7), none, some (.int x9), none, none] []
  unfold bM_share_438 at hf
  refine v_iload (pc := 438) dM_share_438 rfl ?_
  refine v_iload (pc := 440) dM_share_440 rfl ?_
  refine v_icmp_gt (pc := 442) (tgt := 480) dM_share_442 rfl hf (fun hf => ?_) (fun hf => ?_)
  rotate_left
  · refine v_lload (pc := 445) dM_share_445 rfl ?_
    refine v_aload_n (i := 0) (pc := 447) dM_share_447 rfl rfl ?_
    refine v_getR (pc := 448) fgM_64 dM_share_448 hf (fun a12 hf => ?_)
    refine v_iload (pc := 451) dM_share_451 rfl ?_
    refine v_iload (pc := 453) dM_share_453 rfl ?_
    refine v_isub (pc := 455) dM_share_455 ?_
    refine v_lald (pc := 456) dM_share_456 hf (fun j13 hf => ?_)
    refine v_aload_n (i := 0) (pc := 457) dM_share_457 rfl rfl ?_
    refine v_getR (pc := 458) fgM_61 dM_share_458 hf (fun a14 hf => ?_)
    refine v_iload (pc := 461) dM_share_461 rfl ?_
    refine v_lald (pc := 463) dM_share_463 hf (fun j15 hf => ?_)
    refine v_lmul (pc := 464) dM_share_464 ?_
    refine v_ladd (pc := 465) dM_share_465 ?_
    refine v_aload_n (i := 0) (pc := 466) dM_share_466 rfl rfl ?_
    refine v_getI (pc := 467) fgM_80 dM_share_467 hf (fun i16 hf => ?_)
    refine v_i2l (pc := 470) dM_share_470 ?_
    obtain ⟨z17, hf⟩ := nzL_of hf
    refine v_lrem (pc := 471) dM_share_471 z17 ?_
    refine v_lstore (pc := 472) (ls' := [some (.ref x0), none, none, some (.int x3), none, some (.int x5), some (.int x6), some (.long (lrm (x7 + (j13 * j15)) i16.toInt64)), none, some (.int x9), none, none]) dM_share_472 (by decide) rfl ?_
    refine v_iinc (pc := 474) (v := (x9 + (1:Int32))) (ls' := [some (.ref x0), none, none, some (.int x3), none, some (.int x5), some (.int x6), some (.long (lrm (x7 + (j13 * j15)) i16.toInt64)), none, some (.int (x9 + (1:Int32))), none, none]) dM_share_474 rfl rfl (by decide) rfl ?_
    refine v_goto (pc := 477) (tgt := 438) dM_share_477 rfl ?_
    refine v_wk (ls' := [some (.ref x0), none, none, some (.int x3), none, some (.int x5), some (.int x6), some (.long (lrm (x7 + (j13 * j15)) i16.toInt64)), none, some (.int (x9 + (1:Int32))), none, none]) ⟨rfl, rfl, rfl, rfl, rfl, rfl, trivial⟩ ?_
    exact hk438 h x0 x3 x5 x6 (lrm (x7 + (j13 * j15)) i16.toInt64) (x9 + (1:Int32)) hf
  refine v_aload_n (i := 0) (pc := 480) dM_share_480 rfl rfl ?_
  refine v_getR (pc := 481) fgM_64 dM_share_481 hf (fun a1 hf => ?_)
  refine v_iload (pc := 484) dM_share_484 rfl ?_
  refine v_aload_n (i := 0) (pc := 486) dM_share_486 rfl rfl ?_
  refine v_getI (pc := 487) fgM_80 dM_share_487 hf (fun i2 hf => ?_)
  refine v_i2l (pc := 490) dM_share_490 ?_
  refine v_lload (pc := 491) dM_share_491 rfl ?_
  refine v_lsub (pc := 493) dM_share_493 ?_
  refine v_aload_n (i := 0) (pc := 494) dM_share_494 rfl rfl ?_
  refine v_getI (pc := 495) fgM_80 dM_share_495 hf (fun i3 hf => ?_)
  refine v_i2l (pc := 498) dM_share_498 ?_
  obtain ⟨z11, hf⟩ := nzL_of hf
  refine v_lrem (pc := 499) dM_share_499 z11 ?_
  refine v_aload_n (i := 0) (pc := 500) dM_share_500 rfl rfl ?_
  refine v_iload (pc := 501) dM_share_501 rfl ?_
  refine v_i2l (pc := 503) dM_share_503 ?_
  obtain ⟨u10, cu10, hf⟩ := bnd hf
  obtain ⟨h4, j5, e9, hf⟩ := bndp hf
  refine v_M1 (pc := 504) (As := [.long x6.toInt64]) (rest := [.long (lrm (i2.toInt64 - x7) i3.toInt64), .int x6, .ref a1]) lmM_142 cu10 (sM_inverse e9) ⟨Nat.le_of_ble_eq_true rfl, Nat.le_of_ble_eq_true rfl, Nat.le_of_ble_eq_true rfl, Nat.le_of_ble_eq_true rfl⟩ dM_share_504 rfl rfl (Nat.le_of_ble_eq_true rfl) ?_
  refine v_lmul (pc := 507) dM_share_507 ?_
  refine v_aload_n (i := 0) (pc := 508) dM_share_508 rfl rfl ?_
  refine v_getI (pc := 509) fgM_80 dM_share_509 hf (fun i6 hf => ?_)
  refine v_i2l (pc := 512) dM_share_512 ?_
  obtain ⟨z8, hf⟩ := nzL_of hf
  refine v_lrem (pc := 513) dM_share_513 z8 ?_
  refine v_last (pc := 514) dM_share_514 hf (fun h7 hf => ?_)
  refine v_iinc (pc := 515) (v := (x6 + (1:Int32))) (ls' := [some (.ref x0), none, none, some (.int x3), none, some (.int x5), some (.int (x6 + (1:Int32))), some (.long x7), none, some (.int x9), none, none]) dM_share_515 rfl rfl (by decide) rfl ?_
  refine v_goto (pc := 518) (tgt := 238) dM_share_518 rfl ?_
  refine v_wk (ls' := [some (.ref x0), none, none, some (.int x3), none, some (.int x5), some (.int (x6 + (1:Int32))), none, none, none, none, none]) ⟨rfl, rfl, rfl, rfl, trivial⟩ ?_
  exact hk238 h7 x0 x3 x5 (x6 + (1:Int32)) hf
def bM_share_360 (k238 : (MH × Nat × Int32 × Int32 × Int32) → Option (MH × Int32)) (n : Nat) (k360 : (MH × Nat × Int32 × Int32 × Int32 × Int32) → Option (MH × Int32)) (h : MH) (x0 : Nat) (x3 : Int32) (x5 : Int32) (x6 : Int32) (x7 : Int32) : Option (MH × Int32) := (if (64:Int32) ≤ x7 then (fM_share_438 k238 n h x0 x3 x5 x6 (0:Int64) (1:Int32)) else ((gfR h x0 [12] 16).bind fun a1 => ((gfR h x0 [12] 17).bind fun a2 => ((rdL h a2 x7).bind fun j3 => ((wrL h a1 x7 j3).bind fun h4 => ((gfR h4 x0 [12] 18).bind fun a5 => ((gfR h4 x0 [12] 18).bind fun a6 => ((rdL h4 a6 x6).bind fun j7 => (if (x7 / (8:Int32)) = (irm x7 (8:Int32)) then ((gfR h4 x0 [12] 17).bind fun a8 => ((rdL h4 a8 x7).bind fun j9 => (fM_share_418 k238 k360 n h4 j9 j7 x6 a5 x0 x3 x5 x6 x7))) else (fM_share_418 k238 k360 n h4 (0:Int64) j7 x6 a5 x0 x3 x5 x6 x7))))))))))
def fM_share_360 (k238 : (MH × Nat × Int32 × Int32 × Int32) → Option (MH × Int32)) (n : Nat) (h : MH) (x0 : Nat) (x3 : Int32) (x5 : Int32) (x6 : Int32) (x7 : Int32) : Option (MH × Int32) := lp (fun n k s => bM_share_360 k238 n k s.1 s.2.1 s.2.2.1 s.2.2.2.1 s.2.2.2.2.1 s.2.2.2.2.2) n (h, x0, x3, x5, x6, x7)
set_option maxRecDepth 20000 in
set_option maxHeartbeats 4000000 in
theorem tM_share_360 {g : Gh} {h' : MH} {r' : Int32} {k238 : (MH × Nat × Int32 × Int32 × Int32) → Option (MH × Int32)} (hk238 : ∀ (h : MH) (x0 : Nat) (x3 : Int32) (x5 : Int32) (x6 : Int32), k238 (h, x0, x3, x5, x6) = some (h', r') → V g yM_share cM_share 12 (some .int) rmM_share (ZQ g rmM_share h' (some (.int r'))) 0 0 h 238 [some (.ref x0), none, none, some (.int x3), none, some (.int x5), some (.int x6), none, none, none, none, none] []) (n : Nat) (h : MH) (x0 : Nat) (x3 : Int32) (x5 : Int32) (x6 : Int32) (x7 : Int32) (hf : fM_share_360 k238 n h x0 x3 x5 x6 x7 = some (h', r')) : V g yM_share cM_share 12 (some .int) rmM_share (ZQ g rmM_share h' (some (.int r'))) 0 0 h 360 [some (.ref x0), none, none, some (.int x3), none, some (.int x5), some (.int x6), some (.int x7), none, none, none, none] [] := by
  unfold fM_share_360 at hf
  refine lp_ind (P := fun s => V g yM_share cM_share 12 (some .int) rmM_share (ZQ g rmM_share h' (some (.int r'))) 0 0 s.1 360 [some (.ref s.2.1), none, none, some (.int s.2.2.1), none, some (.int s.2.2.2.1), some (.int s.2.2.2.2.1), some (.int s.2.2.2.2.2), none, none, none, none] []) (fun n k360 hk360 s hf => ?_) n (h, x0, x3, x5, x6, x7) hf
  obtain ⟨h, x0, x3, x5, x6, x7⟩ := s
  replace hk360 : ∀ (h : MH) (x0 : Nat) (x3 : Int32) (x5 : Int32) (x6 : Int32) (x7 : Int32), k360 (h, x0, x3, x5, x6, x7) = some (h', r') → V g yM_share cM_share 12 (some .int) rmM_share (ZQ g rmM_share h' (some (.int r'))) 0 0 h 360 [some (.ref x0), none, none, some (.int x3), none, some (.int x5), some (.int x6), some (.int x7), none, none, none, none] [] := fun h x0 x3 x5 x6 x7 => hk360 (h, x0, x3, x5, x6, x7)
  replace hf : bM_share_360 k238 n k360 h x0 x3 x5 x6 x7 = some (h', r') := hf
  change V g yM_share cM_share 12 (some .int) rmM_share (ZQ g rmM_share h' (some (.int r'))) 0 0 h 360 [some (.ref x0), none, none, some (.int x3), none, some (.int x5), some (.int x6), some (.int x7), none, none, none, none] []
  unfold bM_share_360 at hf
  refine v_iload (pc := 360) dM_share_360 rfl ?_
  refine v_bipush (pc := 362) (64:Int32) dM_share_362 rfl ?_
  refine v_icmp_ge (pc := 364) (tgt := 432) dM_share_364 rfl hf (fun hf => ?_) (fun hf => ?_)
  · refine v_lconst (pc := 432) (0:Int64) dM_share_432 rfl ?_
    refine v_lstore (pc := 433) (ls' := [some (.ref x0), none, none, some (.int x3), none, some (.int x5), some (.int x6), some (.long (0:Int64)), none, none, none, none]) dM_share_433 (by decide) rfl ?_
    refine v_iconst (pc := 435) (1:Int32) dM_share_435 rfl ?_
    refine v_istore (pc := 436) (ls' := [some (.ref x0), none, none, some (.int x3), none, some (.int x5), some (.int x6), some (.long (0:Int64)), none, some (.int (1:Int32)), none, none]) dM_share_436 (by decide) rfl ?_
    refine v_wk (ls' := [some (.ref x0), none, none, some (.int x3), none, some (.int x5), some (.int x6), some (.long (0:Int64)), none, some (.int (1:Int32)), none, none]) ⟨rfl, rfl, rfl, rfl, rfl, rfl, trivial⟩ ?_
    exact tM_share_438 hk238 n h x0 x3 x5 x6 (0:Int64) (1:Int32) hf
  refine v_aload_n (i := 0) (pc := 367) dM_share_367 rfl rfl ?_
  refine v_getR (pc := 368) fgM_55 dM_share_368 hf (fun a1 hf => ?_)
  refine v_iload (pc := 371) dM_share_371 rfl ?_
  refine v_aload_n (i := 0) (pc := 373) dM_share_373 rfl rfl ?_
  refine v_getR (pc := 374) fgM_58 dM_share_374 hf (fun a2 hf => ?_)
  refine v_iload (pc := 377) dM_share_377 rfl ?_
  refine v_lald (pc := 379) dM_share_379 hf (fun j3 hf => ?_)
  refine v_last (pc := 380) dM_share_380 hf (fun h4 hf => ?_)
  refine v_aload_n (i := 0) (pc := 381) dM_share_381 rfl rfl ?_
  refine v_getR (pc := 382) fgM_61 dM_share_382 hf (fun a5 hf => ?_)
  refine v_iload (pc := 385) dM_share_385 rfl ?_
  refine v_aload_n (i := 0) (pc := 387) dM_share_387 rfl rfl ?_
  refine v_getR (pc := 388) fgM_61 dM_share_388 hf (fun a6 hf => ?_)
  refine v_iload (pc := 391) dM_share_391 rfl ?_
  refine v_lald (pc := 393) dM_share_393 hf (fun j7 hf => ?_)
  refine v_iload (pc := 394) dM_share_394 rfl ?_
  refine v_bipush (pc := 396) (8:Int32) dM_share_396 rfl ?_
  refine v_idiv (pc := 398) dM_share_398 (by decide) ?_
  refine v_iload (pc := 399) dM_share_399 rfl ?_
  refine v_bipush (pc := 401) (8:Int32) dM_share_401 rfl ?_
  refine v_irem (pc := 403) dM_share_403 (by decide) ?_
  refine v_icmp_ne (pc := 404) (tgt := 417) dM_share_404 rfl hf (fun hf => ?_) (fun hf => ?_)
  rotate_left
  · refine v_lconst (pc := 417) (0:Int64) dM_share_417 rfl ?_
    refine v_wk (ls' := [some (.ref x0), none, none, some (.int x3), none, some (.int x5), some (.int x6), some (.int x7), none, none, none, none]) ⟨rfl, rfl, rfl, rfl, rfl, trivial⟩ ?_
    exact tM_share_418 hk238 hk360 n h4 (0:Int64) j7 x6 a5 x0 x3 x5 x6 x7 hf
  refine v_aload_n (i := 0) (pc := 407) dM_share_407 rfl rfl ?_
  refine v_getR (pc := 408) fgM_58 dM_share_408 hf (fun a8 hf => ?_)
  refine v_iload (pc := 411) dM_share_411 rfl ?_
  refine v_lald (pc := 413) dM_share_413 hf (fun j9 hf => ?_)
  refine v_goto (pc := 414) (tgt := 418) dM_share_414 rfl ?_
  refine v_wk (ls' := [some (.ref x0), none, none, some (.int x3), none, some (.int x5), some (.int x6), some (.int x7), none, none, none, none]) ⟨rfl, rfl, rfl, rfl, rfl, trivial⟩ ?_
  exact tM_share_418 hk238 hk360 n h4 j9 j7 x6 a5 x0 x3 x5 x6 x7 hf
def bM_share_248 (k238 : (MH × Nat × Int32 × Int32 × Int32) → Option (MH × Int32)) (n : Nat) (k248 : (MH × Nat × Int32 × Int32 × Int32 × Int32) → Option (MH × Int32)) (h : MH) (x0 : Nat) (x3 : Int32) (x5 : Int32) (x6 : Int32) (x7 : Int32) : Option (MH × Int32) := (if (8:Int32) ≤ x7 then ((gfR h x0 [12] 18).bind fun a1 => ((wrL h a1 x6 (0:Int64)).bind fun h2 => (fM_share_360 k238 n h2 x0 x3 x5 x6 (0:Int32)))) else (fM_share_258 k238 k248 n h x0 x3 x5 x6 x7 (0:Int32)))
def fM_share_248 (k238 : (MH × Nat × Int32 × Int32 × Int32) → Option (MH × Int32)) (n : Nat) (h : MH) (x0 : Nat) (x3 : Int32) (x5 : Int32) (x6 : Int32) (x7 : Int32) : Option (MH × Int32) := lp (fun n k s => bM_share_248 k238 n k s.1 s.2.1 s.2.2.1 s.2.2.2.1 s.2.2.2.2.1 s.2.2.2.2.2) n (h, x0, x3, x5, x6, x7)
set_option maxRecDepth 20000 in
set_option maxHeartbeats 4000000 in
theorem tM_share_248 {g : Gh} {h' : MH} {r' : Int32} {k238 : (MH × Nat × Int32 × Int32 × Int32) → Option (MH × Int32)} (hk238 : ∀ (h : MH) (x0 : Nat) (x3 : Int32) (x5 : Int32) (x6 : Int32), k238 (h, x0, x3, x5, x6) = some (h', r') → V g yM_share cM_share 12 (some .int) rmM_share (ZQ g rmM_share h' (some (.int r'))) 0 0 h 238 [some (.ref x0), none, none, some (.int x3), none, some (.int x5), some (.int x6), none, none, none, none, none] []) (n : Nat) (h : MH) (x0 : Nat) (x3 : Int32) (x5 : Int32) (x6 : Int32) (x7 : Int32) (hf : fM_share_248 k238 n h x0 x3 x5 x6 x7 = some (h', r')) : V g yM_share cM_share 12 (some .int) rmM_share (ZQ g rmM_share h' (some (.int r'))) 0 0 h 248 [some (.ref x0), none, none, some (.int x3), none, some (.int x5), some (.int x6), some (.int x7), none, none, none, none] [] := by
  unfold fM_share_248 at hf
  refine lp_ind (P := fun s => V g yM_share cM_share 12 (some .int) rmM_share (ZQ g rmM_share h' (some (.int r'))) 0 0 s.1 248 [some (.ref s.2.1), none, none, some (.int s.2.2.1), none, some (.int s.2.2.2.1), some (.int s.2.2.2.2.1), some (.int s.2.2.2.2.2), none, none, none, none] []) (fun n k248 hk248 s hf => ?_) n (h, x0, x3, x5, x6, x7) hf
  obtain ⟨h, x0, x3, x5, x6, x7⟩ := s
  replace hk248 : ∀ (h : MH) (x0 : Nat) (x3 : Int32) (x5 : Int32) (x6 : Int32) (x7 : Int32), k248 (h, x0, x3, x5, x6, x7) = some (h', r') → V g yM_share cM_share 12 (some .int) rmM_share (ZQ g rmM_share h' (some (.int r'))) 0 0 h 248 [some (.ref x0), none, none, some (.int x3), none, some (.int x5), some (.int x6), some (.int x7), none, none, none, none] [] := fun h x0 x3 x5 x6 x7 => hk248 (h, x0, x3, x5, x6, x7)
  replace hf : bM_share_248 k238 n k248 h x0 x3 x5 x6 x7 = some (h', r') := hf
  change V g yM_share cM_share 12 (some .int) rmM_share (ZQ g rmM_share h' (some (.int r'))) 0 0 h 248 [some (.ref x0), none, none, some (.int x3), none, some (.int x5), some (.int x6), some (.int x7), none, none, none, none] []
  unfold bM_share_248 at hf
  refine v_iload (pc := 248) dM_share_248 rfl ?_
  refine v_bipush (pc := 250) (8:Int32) dM_share_250 rfl ?_
  refine v_icmp_ge (pc := 252) (tgt := 349) dM_share_252 rfl hf (fun hf => ?_) (fun hf => ?_)
  rotate_left
  · refine v_iconst (pc := 255) (0:Int32) dM_share_255 rfl ?_
    refine v_istore (pc := 256) (ls' := [some (.ref x0), none, none, some (.int x3), none, some (.int x5), some (.int x6), some (.int x7), some (.int (0:Int32)), none, none, none]) dM_share_256 (by decide) rfl ?_
    refine v_wk (ls' := [some (.ref x0), none, none, some (.int x3), none, some (.int x5), some (.int x6), some (.int x7), some (.int (0:Int32)), none, none, none]) ⟨rfl, rfl, rfl, rfl, rfl, rfl, trivial⟩ ?_
    exact tM_share_258 hk238 hk248 n h x0 x3 x5 x6 x7 (0:Int32) hf
  refine v_aload_n (i := 0) (pc := 349) dM_share_349 rfl rfl ?_
  refine v_getR (pc := 350) fgM_61 dM_share_350 hf (fun a1 hf => ?_)
  refine v_iload (pc := 353) dM_share_353 rfl ?_
  refine v_lconst (pc := 355) (0:Int64) dM_share_355 rfl ?_
  refine v_last (pc := 356) dM_share_356 hf (fun h2 hf => ?_)
  refine v_iconst (pc := 357) (0:Int32) dM_share_357 rfl ?_
  refine v_istore (pc := 358) (ls' := [some (.ref x0), none, none, some (.int x3), none, some (.int x5), some (.int x6), some (.int (0:Int32)), none, none, none, none]) dM_share_358 (by decide) rfl ?_
  refine v_wk (ls' := [some (.ref x0), none, none, some (.int x3), none, some (.int x5), some (.int x6), some (.int (0:Int32)), none, none, none, none]) ⟨rfl, rfl, rfl, rfl, rfl, trivial⟩ ?_
  exact tM_share_360 hk238 n h2 x0 x3 x5 x6 (0:Int32) hf
def bM_share_238 (n : Nat) (k238 : (MH × Nat × Int32 × Int32 × Int32) → Option (MH × Int32)) (h : MH) (x0 : Nat) (x3 : Int32) (x5 : Int32) (x6 : Int32) : Option (MH × Int32) := (if x5 < x6 then (if x3 ≤ x5 then ((gfR h x0 [12] 19).bind fun a1 => ((rdL h a1 x3).bind fun j2 => (some (h, j2.toInt32)))) else (some (h, (0:Int32)))) else (fM_share_248 k238 n h x0 x3 x5 x6 (0:Int32)))
def fM_share_238 (n : Nat) (h : MH) (x0 : Nat) (x3 : Int32) (x5 : Int32) (x6 : Int32) : Option (MH × Int32) := lp (fun n k s => bM_share_238 n k s.1 s.2.1 s.2.2.1 s.2.2.2.1 s.2.2.2.2) n (h, x0, x3, x5, x6)
set_option maxRecDepth 20000 in
set_option maxHeartbeats 4000000 in
theorem tM_share_238 {g : Gh} {h' : MH} {r' : Int32} (n : Nat) (h : MH) (x0 : Nat) (x3 : Int32) (x5 : Int32) (x6 : Int32) (hf : fM_share_238 n h x0 x3 x5 x6 = some (h', r')) : V g yM_share cM_share 12 (some .int) rmM_share (ZQ g rmM_share h' (some (.int r'))) 0 0 h 238 [some (.ref x0), none, none, some (.int x3), none, some (.int x5), some (.int x6), none, none, none, none, none] [] := by
  unfold fM_share_238 at hf
  refine lp_ind (P := fun s => V g yM_share cM_share 12 (some .int) rmM_share (ZQ g rmM_share h' (some (.int r'))) 0 0 s.1 238 [some (.ref s.2.1), none, none, some (.int s.2.2.1), none, some (.int s.2.2.2.1), some (.int s.2.2.2.2), none, none, none, none, none] []) (fun n k238 hk238 s hf => ?_) n (h, x0, x3, x5, x6) hf
  obtain ⟨h, x0, x3, x5, x6⟩ := s
  replace hk238 : ∀ (h : MH) (x0 : Nat) (x3 : Int32) (x5 : Int32) (x6 : Int32), k238 (h, x0, x3, x5, x6) = some (h', r') → V g yM_share cM_share 12 (some .int) rmM_share (ZQ g rmM_share h' (some (.int r'))) 0 0 h 238 [some (.ref x0), none, none, some (.int x3), none, some (.int x5), some (.int x6), none, none, none, none, none] [] := fun h x0 x3 x5 x6 => hk238 (h, x0, x3, x5, x6)
  replace hf : bM_share_238 n k238 h x0 x3 x5 x6 = some (h', r') := hf
  change V g yM_share cM_share 12 (some .int) rmM_share (ZQ g rmM_share h' (some (.int r'))) 0 0 h 238 [some (.ref x0), none, none, some (.int x3), none, some (.int x5), some (.int x6), none, none, none, none, none] []
  unfold bM_share_238 at hf
  refine v_iload (pc := 238) dM_share_238 rfl ?_
  refine v_iload (pc := 240) dM_share_240 rfl ?_
  refine v_icmp_gt (pc := 242) (tgt := 521) dM_share_242 rfl hf (fun hf => ?_) (fun hf => ?_)
  rotate_left
  · refine v_iconst (pc := 245) (0:Int32) dM_share_245 rfl ?_
    refine v_istore (pc := 246) (ls' := [some (.ref x0), none, none, some (.int x3), none, some (.int x5), some (.int x6), some (.int (0:Int32)), none, none, none, none]) dM_share_246 (by decide) rfl ?_
    refine v_wk (ls' := [some (.ref x0), none, none, some (.int x3), none, some (.int x5), some (.int x6), some (.int (0:Int32)), none, none, none, none]) ⟨rfl, rfl, rfl, rfl, rfl, trivial⟩ ?_
    exact tM_share_248 hk238 n h x0 x3 x5 x6 (0:Int32) hf
  refine v_iload_n (i := 3) (pc := 521) dM_share_521 rfl rfl ?_
  refine v_iload (pc := 522) dM_share_522 rfl ?_
  refine v_icmp_le (pc := 524) (tgt := 531) dM_share_524 rfl hf (fun hf => ?_) (fun hf => ?_)
  rotate_left
  · refine v_iconst (pc := 527) (0:Int32) dM_share_527 rfl ?_
    refine v_goto (pc := 528) (tgt := 538) dM_share_528 rfl ?_
    exact v_iret (pc := 538) dM_share_538 (by decide) (by decide) hf
  refine v_aload_n (i := 0) (pc := 531) dM_share_531 rfl rfl ?_
  refine v_getR (pc := 532) fgM_64 dM_share_532 hf (fun a1 hf => ?_)
  refine v_iload_n (i := 3) (pc := 535) dM_share_535 rfl rfl ?_
  refine v_lald (pc := 536) dM_share_536 hf (fun j2 hf => ?_)
  refine v_l2i (pc := 537) dM_share_537 ?_
  exact v_iret (pc := 538) dM_share_538 (by decide) (by decide) hf
def bM_share_63 (n : Nat) (k63 : (MH × Nat × Int32 × Int32 × Int32 × Int32 × Int32) → Option (MH × Int32)) (h : MH) (x0 : Nat) (x1 : Int32) (x2 : Int32) (x3 : Int32) (x5 : Int32) (x6 : Int32) : Option (MH × Int32) := (if (8:Int32) ≤ x6 then ((gfR h x0 [12] 19).bind fun a1 => ((wrL h a1 (0:Int32) (1:Int64)).bind fun h2 => (fM_share_238 n h2 x0 x3 x5 (1:Int32)))) else (fM_share_73 k63 n h x0 x1 x2 x3 x5 x6 (0:Int32)))
def fM_share_63 (n : Nat) (h : MH) (x0 : Nat) (x1 : Int32) (x2 : Int32) (x3 : Int32) (x5 : Int32) (x6 : Int32) : Option (MH × Int32) := lp (fun n k s => bM_share_63 n k s.1 s.2.1 s.2.2.1 s.2.2.2.1 s.2.2.2.2.1 s.2.2.2.2.2.1 s.2.2.2.2.2.2) n (h, x0, x1, x2, x3, x5, x6)
set_option maxRecDepth 20000 in
set_option maxHeartbeats 4000000 in
theorem tM_share_63 {g : Gh} {h' : MH} {r' : Int32} (n : Nat) (h : MH) (x0 : Nat) (x1 : Int32) (x2 : Int32) (x3 : Int32) (x5 : Int32) (x6 : Int32) (hf : fM_share_63 n h x0 x1 x2 x3 x5 x6 = some (h', r')) : V g yM_share cM_share 12 (some .int) rmM_share (ZQ g rmM_share h' (some (.int r'))) 0 0 h 63 [some (.ref x0), some (.int x1), some (.int x2), some (.int x3), none, some (.int x5), some (.int x6), none, none, none, none, none] [] := by
  unfold fM_share_63 at hf
  refine lp_ind (P := fun s => V g yM_share cM_share 12 (some .int) rmM_share (ZQ g rmM_share h' (some (.int r'))) 0 0 s.1 63 [some (.ref s.2.1), some (.int s.2.2.1), some (.int s.2.2.2.1), some (.int s.2.2.2.2.1), none, some (.int s.2.2.2.2.2.1), some (.int s.2.2.2.2.2.2), none, none, none, none, none] []) (fun n k63 hk63 s hf => ?_) n (h, x0, x1, x2, x3, x5, x6) hf
  obtain ⟨h, x0, x1, x2, x3, x5, x6⟩ := s
  replace hk63 : ∀ (h : MH) (x0 : Nat) (x1 : Int32) (x2 : Int32) (x3 : Int32) (x5 : Int32) (x6 : Int32), k63 (h, x0, x1, x2, x3, x5, x6) = some (h', r') → V g yM_share cM_share 12 (some .int) rmM_share (ZQ g rmM_share h' (some (.int r'))) 0 0 h 63 [some (.ref x0), some (.int x1), some (.int x2), some (.int x3), none, some (.int x5), some (.int x6), none, none, none, none, none] [] := fun h x0 x1 x2 x3 x5 x6 => hk63 (h, x0, x1, x2, x3, x5, x6)
  replace hf : bM_share_63 n k63 h x0 x1 x2 x3 x5 x6 = some (h', r') := hf
  change V g yM_share cM_share 12 (some .int) rmM_share (ZQ g rmM_share h' (some (.int r'))) 0 0 h 63 [some (.ref x0), some (.int x1), some (.int x2), some (.int x3), none, some (.int x5), some (.int x6), none, none, none, none, none] []
  unfold bM_share_63 at hf
  refine v_iload (pc := 63) dM_share_63 rfl ?_
  refine v_bipush (pc := 65) (8:Int32) dM_share_65 rfl ?_
  refine v_icmp_ge (pc := 67) (tgt := 228) dM_share_67 rfl hf (fun hf => ?_) (fun hf => ?_)
  rotate_left
  · refine v_iconst (pc := 70) (0:Int32) dM_share_70 rfl ?_
    refine v_istore (pc := 71) (ls' := [some (.ref x0), some (.int x1), some (.int x2), some (.int x3), none, some (.int x5), some (.int x6), some (.int (0:Int32)), none, none, none, none]) dM_share_71 (by decide) rfl ?_
    refine v_wk (ls' := [some (.ref x0), some (.int x1), some (.int x2), some (.int x3), none, some (.int x5), some (.int x6), some (.int (0:Int32)), none, none, none, none]) ⟨rfl, rfl, rfl, rfl, rfl, rfl, rfl, trivial⟩ ?_
    exact tM_share_73 hk63 n h x0 x1 x2 x3 x5 x6 (0:Int32) hf
  refine v_aload_n (i := 0) (pc := 228) dM_share_228 rfl rfl ?_
  refine v_getR (pc := 229) fgM_64 dM_share_229 hf (fun a1 hf => ?_)
  refine v_iconst (pc := 232) (0:Int32) dM_share_232 rfl ?_
  refine v_lconst (pc := 233) (1:Int64) dM_share_233 rfl ?_
  refine v_last (pc := 234) dM_share_234 hf (fun h2 hf => ?_)
  refine v_iconst (pc := 235) (1:Int32) dM_share_235 rfl ?_
  refine v_istore (pc := 236) (ls' := [some (.ref x0), some (.int x1), some (.int x2), some (.int x3), none, some (.int x5), some (.int (1:Int32)), none, none, none, none, none]) dM_share_236 (by decide) rfl ?_
  refine v_wk (ls' := [some (.ref x0), none, none, some (.int x3), none, some (.int x5), some (.int (1:Int32)), none, none, none, none, none]) ⟨rfl, rfl, rfl, rfl, trivial⟩ ?_
  exact tM_share_238 n h2 x0 x3 x5 (1:Int32) hf
def fM_share (n : Nat) (h : MH) (a_0 : Nat) (i_1 : Int32) (i_2 : Int32) (i_3 : Int32) : Option (MH × Int32) := ((pf h a_0 [12] 0 (.int (0:Int32))).bind fun h1 => (bnd2 (fM_isPlace h1 i_1) fun h2 i3 => (if i3 = (0:Int32) then (some (h2, (-1000001:Int32))) else (bnd2 (fM_in h2 i_2.toInt64 (0:Int64) (1:Int64)) fun h4 i5 => (if i5 = (0:Int32) then (some (h4, (-1000001:Int32))) else (bnd2 (fM_in h4 i_3.toInt64 (0:Int64) (8:Int64)) fun h6 i7 => (if i7 = (0:Int32) then (some (h6, (-1000001:Int32))) else ((chk h6 a_0 12).bind fun _ => (bnd2 (fM_look h6 a_0 i_1) fun h8 i9 => (if (0:Int32) ≤ i9 then ((gfR h8 a_0 [12] 9).bind fun a10 => ((rdI h8 a10 i_1).bind fun i11 => (fM_share_63 n h8 a_0 i_1 i_2 i_3 i11 (0:Int32)))) else (some (h8, i9))))))))))))
set_option maxRecDepth 20000 in
set_option maxHeartbeats 4000000 in
theorem sM_share {g : Gh} {h' : MH} {r' : Int32} {n : Nat} {h : MH} {a_0 : Nat} {i_1 : Int32} {i_2 : Int32} {i_3 : Int32} (hf : fM_share n h a_0 i_1 i_2 i_3 = some (h', r')) : Sp g yM_share cM_share 12 (some .int) rmM_share h [.ref a_0, .int i_1, .int i_2, .int i_3] h' (some (.int r')) := by
  refine sp_of (by decide) (Nat.le_of_ble_eq_true rfl) ?_
  change V g yM_share cM_share 12 (some .int) rmM_share (ZQ g rmM_share h' (some (.int r'))) 0 0 h 0 [some (.ref a_0), some (.int i_1), some (.int i_2), some (.int i_3), none, none, none, none, none, none, none, none] []
  unfold fM_share at hf
  refine v_aload_n (i := 0) (pc := 0) dM_share_0 rfl rfl ?_
  refine v_iconst (pc := 1) (0:Int32) dM_share_1 rfl ?_
  refine v_put (pc := 2) fpM_1 (fun _ => ⟨rfl, rfl⟩) dM_share_2 hf (fun h1 hf => ?_)
  refine v_iload_n (i := 1) (pc := 5) dM_share_5 rfl rfl ?_
  obtain ⟨h2, i3, e16, hf⟩ := bndp hf
  refine v_S1 (pc := 6) (As := [.int i_1]) (rest := []) lsM_129 (sM_isPlace e16) ⟨Nat.le_of_ble_eq_true rfl, Nat.le_of_ble_eq_true rfl, Nat.le_of_ble_eq_true rfl, Nat.le_of_ble_eq_true rfl⟩ dM_share_6 rfl rfl (Nat.le_of_ble_eq_true rfl) ?_
  refine v_if_eq (pc := 9) (tgt := 34) dM_share_9 rfl hf (fun hf => ?_) (fun hf => ?_)
  · refine v_ldc (pc := 34) dM_share_34 kiM_90 ?_
    exact v_iret (pc := 36) dM_share_36 (by decide) (by decide) hf
  refine v_iload_n (i := 2) (pc := 12) dM_share_12 rfl rfl ?_
  refine v_i2l (pc := 13) dM_share_13 ?_
  refine v_lconst (pc := 14) (0:Int64) dM_share_14 rfl ?_
  refine v_lconst (pc := 15) (1:Int64) dM_share_15 rfl ?_
  obtain ⟨h4, i5, e15, hf⟩ := bndp hf
  refine v_S1 (pc := 16) (As := [.long i_2.toInt64, .long (0:Int64), .long (1:Int64)]) (rest := []) lsM_71 (sM_in e15) ⟨Nat.le_of_ble_eq_true rfl, Nat.le_of_ble_eq_true rfl, Nat.le_of_ble_eq_true rfl, Nat.le_of_ble_eq_true rfl⟩ dM_share_16 rfl rfl (Nat.le_of_ble_eq_true rfl) ?_
  refine v_if_eq (pc := 19) (tgt := 34) dM_share_19 rfl hf (fun hf => ?_) (fun hf => ?_)
  · refine v_ldc (pc := 34) dM_share_34 kiM_90 ?_
    exact v_iret (pc := 36) dM_share_36 (by decide) (by decide) hf
  refine v_iload_n (i := 3) (pc := 22) dM_share_22 rfl rfl ?_
  refine v_i2l (pc := 23) dM_share_23 ?_
  refine v_lconst (pc := 24) (0:Int64) dM_share_24 rfl ?_
  refine v_ldc2 (pc := 25) dM_share_25 klM_178 ?_
  obtain ⟨h6, i7, e14, hf⟩ := bndp hf
  refine v_S1 (pc := 28) (As := [.long i_3.toInt64, .long (0:Int64), .long (8:Int64)]) (rest := []) lsM_71 (sM_in e14) ⟨Nat.le_of_ble_eq_true rfl, Nat.le_of_ble_eq_true rfl, Nat.le_of_ble_eq_true rfl, Nat.le_of_ble_eq_true rfl⟩ dM_share_28 rfl rfl (Nat.le_of_ble_eq_true rfl) ?_
  refine v_if_ne (pc := 31) (tgt := 37) dM_share_31 rfl hf (fun hf => ?_) (fun hf => ?_)
  · refine v_ldc (pc := 34) dM_share_34 kiM_90 ?_
    exact v_iret (pc := 36) dM_share_36 (by decide) (by decide) hf
  refine v_aload_n (i := 0) (pc := 37) dM_share_37 rfl rfl ?_
  refine v_iload_n (i := 1) (pc := 38) dM_share_38 rfl rfl ?_
  obtain ⟨u13, cu13, hf⟩ := bnd hf
  obtain ⟨h8, i9, e12, hf⟩ := bndp hf
  refine v_M1 (pc := 39) (As := [.int i_1]) (rest := []) lmM_149 cu13 (sM_look e12) ⟨Nat.le_of_ble_eq_true rfl, Nat.le_of_ble_eq_true rfl, Nat.le_of_ble_eq_true rfl, Nat.le_of_ble_eq_true rfl⟩ dM_share_39 rfl rfl (Nat.le_of_ble_eq_true rfl) ?_
  refine v_istore (pc := 42) (ls' := [some (.ref a_0), some (.int i_1), some (.int i_2), some (.int i_3), some (.int i9), none, none, none, none, none, none, none]) dM_share_42 (by decide) rfl ?_
  refine v_iload (pc := 44) dM_share_44 rfl ?_
  refine v_if_ge (pc := 46) (tgt := 52) dM_share_46 rfl hf (fun hf => ?_) (fun hf => ?_)
  rotate_left
  · refine v_iload (pc := 49) dM_share_49 rfl ?_
    exact v_iret (pc := 51) dM_share_51 (by decide) (by decide) hf
  refine v_aload_n (i := 0) (pc := 52) dM_share_52 rfl rfl ?_
  refine v_getR (pc := 53) fgM_37 dM_share_53 hf (fun a10 hf => ?_)
  refine v_iload_n (i := 1) (pc := 56) dM_share_56 rfl rfl ?_
  refine v_iald (pc := 57) dM_share_57 hf (fun i11 hf => ?_)
  refine v_istore (pc := 58) (ls' := [some (.ref a_0), some (.int i_1), some (.int i_2), some (.int i_3), some (.int i9), some (.int i11), none, none, none, none, none, none]) dM_share_58 (by decide) rfl ?_
  refine v_iconst (pc := 60) (0:Int32) dM_share_60 rfl ?_
  refine v_istore (pc := 61) (ls' := [some (.ref a_0), some (.int i_1), some (.int i_2), some (.int i_3), some (.int i9), some (.int i11), some (.int (0:Int32)), none, none, none, none, none]) dM_share_61 (by decide) rfl ?_
  refine v_wk (ls' := [some (.ref a_0), some (.int i_1), some (.int i_2), some (.int i_3), none, some (.int i11), some (.int (0:Int32)), none, none, none, none, none]) ⟨rfl, rfl, rfl, rfl, rfl, rfl, trivial⟩ ?_
  exact tM_share_63 n h8 a_0 i_1 i_2 i_3 i11 (0:Int32) hf

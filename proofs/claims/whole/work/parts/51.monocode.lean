set_option maxRecDepth 20000 in
set_option maxHeartbeats 4000000 in
theorem mMo_fitting_22 {kk : MH} {h' : MH} {r' : Int32} (n : Nat) (h : MH) (x0 : Int32) (x1 : Int32) (hf : fMo_fitting_22 n h x0 x1 = some (h', r')) : fMo_fitting_22 n (mrg h kk) x0 x1 = some (mrg h' kk, r') := by
  unfold fMo_fitting_22 at hf ⊢
  refine lp_m (ψ := fun s => (mrg s.1 kk, s.2)) (fun n k22 k22' hk22 s hf => ?_) n (h, x0, x1) hf
  obtain ⟨h, x0, x1⟩ := s
  replace hk22 : ∀ (h : MH) (x0 : Int32) (x1 : Int32), k22 (h, x0, x1) = some (h', r') → k22' ((mrg h kk), x0, x1) = some (mrg h' kk, r') := fun h x0 x1 => hk22 (h, x0, x1)
  replace hf : bMo_fitting_22 n k22 h x0 x1 = some (h', r') := hf
  show bMo_fitting_22 n k22' (mrg h kk) x0 x1 = some (mrg h' kk, r')
  unfold bMo_fitting_22 at hf ⊢
  refine ite_m hf (fun hf => ?_) (fun hf => ?_)
  · exact retZ_m hf
  obtain ⟨z1, hf⟩ := nzI_of hf
  refine nzI_m z1 ?_
  refine ite_m hf (fun hf => ?_) (fun hf => ?_)
  · exact retZ_m hf
  exact hk22 h x0 (x1 + (2:Int32)) hf
set_option maxRecDepth 20000 in
set_option maxHeartbeats 4000000 in
theorem mMo_fitting {kk : MH} {h' : MH} {r' : Int32} {n : Nat} {h : MH} {i_0 : Int32} (hf : fMo_fitting n h i_0 = some (h', r')) : fMo_fitting n (mrg h kk) i_0 = some (mrg h' kk, r') := by
  unfold fMo_fitting at hf ⊢
  refine ite_m hf (fun hf => ?_) (fun hf => ?_)
  · exact retZ_m hf
  refine ite_m hf (fun hf => ?_) (fun hf => ?_)
  · exact retZ_m hf
  refine ite_m hf (fun hf => ?_) (fun hf => ?_)
  · exact retZ_m hf
  exact mMo_fitting_22 n h i_0 (3:Int32) hf
set_option maxRecDepth 20000 in
set_option maxHeartbeats 4000000 in
theorem mMo_init {kk : MH} {h' : MH} {n : Nat} {h : MH} {a_0 : Nat} {i_1 : Int32} (hf : fMo_init n h a_0 i_1 = some h') : fMo_init n (mrg h kk) a_0 i_1 = some (mrg h' kk) := by
  unfold fMo_init at hf ⊢
  obtain ⟨h1, i2, e5, hf⟩ := bndp hf
  refine bst2 (mMo_fitting e5) ?_
  refine ite_m hf (fun hf => ?_) (fun hf => ?_)
  · obtain ⟨h3, emh3, hf⟩ := bnd hf
    refine bst (pf_m (by intro q; cases q) emh3) ?_
    cases hf
    rfl
  obtain ⟨h4, emh4, hf⟩ := bnd hf
  refine bst (pf_m (by intro q; cases q) emh4) ?_
  cases hf
  rfl
set_option maxRecDepth 20000 in
set_option maxHeartbeats 4000000 in
theorem mFo_code_6 {kk : MH} {h' : MH} {r' : Int32} (n : Nat) (h : MH) (x0 : Nat) (x2 : Int32) (x3 : Int32) (x4 : Int32) (x5 : Int32) (hf : fFo_code_6 n h x0 x2 x3 x4 x5 = some (h', r')) : fFo_code_6 n (mrg h kk) x0 x2 x3 x4 x5 = some (mrg h' kk, r') := by
  unfold fFo_code_6 at hf ⊢
  refine lp_m (ψ := fun s => (mrg s.1 kk, s.2)) (fun n k6 k6' hk6 s hf => ?_) n (h, x0, x2, x3, x4, x5) hf
  obtain ⟨h, x0, x2, x3, x4, x5⟩ := s
  replace hk6 : ∀ (h : MH) (x0 : Nat) (x2 : Int32) (x3 : Int32) (x4 : Int32) (x5 : Int32), k6 (h, x0, x2, x3, x4, x5) = some (h', r') → k6' ((mrg h kk), x0, x2, x3, x4, x5) = some (mrg h' kk, r') := fun h x0 x2 x3 x4 x5 => hk6 (h, x0, x2, x3, x4, x5)
  replace hf : bFo_code_6 n k6 h x0 x2 x3 x4 x5 = some (h', r') := hf
  show bFo_code_6 n k6' (mrg h kk) x0 x2 x3 x4 x5 = some (mrg h' kk, r')
  unfold bFo_code_6 at hf ⊢
  refine ite_m hf (fun hf => ?_) (fun hf => ?_)
  · cases hf
    rfl
  obtain ⟨i1, emi1, hf⟩ := bnd hf
  refine bst (rdI_m emi1) ?_
  exact hk6 h x0 x2 x3 (((x4 * (8:Int32)) + i1) - x3) (x5 + (1:Int32)) hf
set_option maxRecDepth 20000 in
set_option maxHeartbeats 4000000 in
theorem mFo_code {kk : MH} {h' : MH} {r' : Int32} {n : Nat} {h : MH} {a_0 : Nat} {i_1 : Int32} {i_2 : Int32} {i_3 : Int32} (hf : fFo_code n h a_0 i_1 i_2 i_3 = some (h', r')) : fFo_code n (mrg h kk) a_0 i_1 i_2 i_3 = some (mrg h' kk, r') := by
  unfold fFo_code at hf ⊢
  exact mFo_code_6 n h a_0 i_2 i_3 (1:Int32) i_1 hf
set_option maxRecDepth 20000 in
set_option maxHeartbeats 4000000 in
theorem mFo_plantFirst {kk : MH} {h' : MH} {n : Nat} {h : MH} {a_0 : Nat} (hf : fFo_plantFirst n h a_0 = some h') : fFo_plantFirst n (mrg h kk) a_0 = some (mrg h' kk) := by
  unfold fFo_plantFirst at hf ⊢
  obtain ⟨a1, ema1, hf⟩ := bnd hf
  refine bst (gfR_m ema1) ?_
  obtain ⟨h2, emh2, hf⟩ := bnd hf
  refine bst (wrI_m emh2) ?_
  obtain ⟨a3, ema3, hf⟩ := bnd hf
  refine bst (gfR_m ema3) ?_
  obtain ⟨h4, emh4, hf⟩ := bnd hf
  refine bst (wrI_m emh4) ?_
  obtain ⟨a5, ema5, hf⟩ := bnd hf
  refine bst (gfR_m ema5) ?_
  obtain ⟨h6, emh6, hf⟩ := bnd hf
  refine bst (wrI_m emh6) ?_
  obtain ⟨a7, ema7, hf⟩ := bnd hf
  refine bst (gfR_m ema7) ?_
  obtain ⟨a8, ema8, hf⟩ := bnd hf
  refine bst (gfR_m ema8) ?_
  refine rdRn_m hf (fun hf => ?_) (fun a9 hf => ?_)
  · cases hf
  obtain ⟨h10, i11, e13, hf⟩ := bndp hf
  refine bst2 (mFo_code e13) ?_
  obtain ⟨h12, emh12, hf⟩ := bnd hf
  refine bst (wrI_m emh12) ?_
  cases hf
  rfl
set_option maxRecDepth 20000 in
set_option maxHeartbeats 4000000 in
theorem mFo_lower_60 {kk : MH} {h' : MH} {k29 k29' : (MH × Nat × Nat × Int32 × Int32 × Int32 × Int32) → Option MH} (hk29 : ∀ (h : MH) (x0 : Nat) (x1 : Nat) (x2 : Int32) (x3 : Int32) (x4 : Int32) (x5 : Int32), k29 (h, x0, x1, x2, x3, x4, x5) = some h' → k29' ((mrg h kk), x0, x1, x2, x3, x4, x5) = some (mrg h' kk)) (n : Nat) (h : MH) (s0 : Int32) (s1 : Int32) (s2 : Nat) (x0 : Nat) (x1 : Nat) (x2 : Int32) (x3 : Int32) (x4 : Int32) (x5 : Int32) (hf : fFo_lower_60 k29 n h s0 s1 s2 x0 x1 x2 x3 x4 x5 = some h') : fFo_lower_60 k29' n (mrg h kk) s0 s1 s2 x0 x1 x2 x3 x4 x5 = some (mrg h' kk) := by
  unfold fFo_lower_60 at hf ⊢
  obtain ⟨h1, emh1, hf⟩ := bnd hf
  refine bst (wrI_m emh1) ?_
  exact hk29 h1 x0 x1 x2 x3 x4 (x5 + (1:Int32)) hf
set_option maxRecDepth 20000 in
set_option maxHeartbeats 4000000 in
theorem mFo_lower_29 {kk : MH} {h' : MH} (n : Nat) (h : MH) (x0 : Nat) (x1 : Nat) (x2 : Int32) (x3 : Int32) (x4 : Int32) (x5 : Int32) (hf : fFo_lower_29 n h x0 x1 x2 x3 x4 x5 = some h') : fFo_lower_29 n (mrg h kk) x0 x1 x2 x3 x4 x5 = some (mrg h' kk) := by
  unfold fFo_lower_29 at hf ⊢
  refine lp_m (ψ := fun s => (mrg s.1 kk, s.2)) (fun n k29 k29' hk29 s hf => ?_) n (h, x0, x1, x2, x3, x4, x5) hf
  obtain ⟨h, x0, x1, x2, x3, x4, x5⟩ := s
  replace hk29 : ∀ (h : MH) (x0 : Nat) (x1 : Nat) (x2 : Int32) (x3 : Int32) (x4 : Int32) (x5 : Int32), k29 (h, x0, x1, x2, x3, x4, x5) = some h' → k29' ((mrg h kk), x0, x1, x2, x3, x4, x5) = some (mrg h' kk) := fun h x0 x1 x2 x3 x4 x5 => hk29 (h, x0, x1, x2, x3, x4, x5)
  replace hf : bFo_lower_29 n k29 h x0 x1 x2 x3 x4 x5 = some h' := hf
  show bFo_lower_29 n k29' (mrg h kk) x0 x1 x2 x3 x4 x5 = some (mrg h' kk)
  unfold bFo_lower_29 at hf ⊢
  refine ite_m hf (fun hf => ?_) (fun hf => ?_)
  · cases hf
    rfl
  refine ite_m hf (fun hf => ?_) (fun hf => ?_)
  · obtain ⟨i1, emi1, hf⟩ := bnd hf
    refine bst (rdI_m emi1) ?_
    exact mFo_lower_60 hk29 n h i1 x5 x1 x0 x1 x2 x3 x4 x5 hf
  obtain ⟨i2, emi2, hf⟩ := bnd hf
  refine bst (rdI_m emi2) ?_
  exact mFo_lower_60 hk29 n h i2 x5 x1 x0 x1 x2 x3 x4 x5 hf
set_option maxRecDepth 20000 in
set_option maxHeartbeats 4000000 in
theorem mFo_lower_26 {kk : MH} {h' : MH} (n : Nat) (h : MH) (x0 : Nat) (x1 : Nat) (x2 : Int32) (x3 : Int32) (x4 : Int32) (hf : fFo_lower_26 n h x0 x1 x2 x3 x4 = some h') : fFo_lower_26 n (mrg h kk) x0 x1 x2 x3 x4 = some (mrg h' kk) := by
  unfold fFo_lower_26 at hf ⊢
  exact mFo_lower_29 n h x0 x1 x2 x3 x4 (0:Int32) hf
set_option maxRecDepth 20000 in
set_option maxHeartbeats 4000000 in
theorem mFo_lower_5 {kk : MH} {h' : MH} (n : Nat) (h : MH) (x0 : Nat) (x1 : Nat) (x2 : Int32) (x3 : Int32) (x4 : Int32) (hf : fFo_lower_5 n h x0 x1 x2 x3 x4 = some h') : fFo_lower_5 n (mrg h kk) x0 x1 x2 x3 x4 = some (mrg h' kk) := by
  unfold fFo_lower_5 at hf ⊢
  refine lp_m (ψ := fun s => (mrg s.1 kk, s.2)) (fun n k5 k5' hk5 s hf => ?_) n (h, x0, x1, x2, x3, x4) hf
  obtain ⟨h, x0, x1, x2, x3, x4⟩ := s
  replace hk5 : ∀ (h : MH) (x0 : Nat) (x1 : Nat) (x2 : Int32) (x3 : Int32) (x4 : Int32), k5 (h, x0, x1, x2, x3, x4) = some h' → k5' ((mrg h kk), x0, x1, x2, x3, x4) = some (mrg h' kk) := fun h x0 x1 x2 x3 x4 => hk5 (h, x0, x1, x2, x3, x4)
  replace hf : bFo_lower_5 n k5 h x0 x1 x2 x3 x4 = some h' := hf
  show bFo_lower_5 n k5' (mrg h kk) x0 x1 x2 x3 x4 = some (mrg h' kk)
  unfold bFo_lower_5 at hf ⊢
  refine ite_m hf (fun hf => ?_) (fun hf => ?_)
  · exact mFo_lower_26 n h x0 x1 x2 x3 x4 hf
  obtain ⟨i1, emi1, hf⟩ := bnd hf
  refine bst (rdI_m emi1) ?_
  obtain ⟨i2, emi2, hf⟩ := bnd hf
  refine bst (rdI_m emi2) ?_
  refine ite_m hf (fun hf => ?_) (fun hf => ?_)
  · exact mFo_lower_26 n h x0 x1 x2 x3 x4 hf
  exact hk5 h x0 x1 x2 x3 (x4 + (-1:Int32)) hf
set_option maxRecDepth 20000 in
set_option maxHeartbeats 4000000 in
theorem mFo_lower {kk : MH} {h' : MH} {n : Nat} {h : MH} {a_0 : Nat} {a_1 : Nat} {i_2 : Int32} {i_3 : Int32} (hf : fFo_lower n h a_0 a_1 i_2 i_3 = some h') : fFo_lower n (mrg h kk) a_0 a_1 i_2 i_3 = some (mrg h' kk) := by
  unfold fFo_lower at hf ⊢
  exact mFo_lower_5 n h a_0 a_1 i_2 i_3 (i_2 - (1:Int32)) hf
set_option maxRecDepth 20000 in
set_option maxHeartbeats 4000000 in
theorem mFo_plant_115 {kk : MH} {h' : MH} (n : Nat) (h : MH) (x0 : Nat) (x1 : Int32) (x3 : Nat) (hf : fFo_plant_115 n h x0 x1 x3 = some h') : fFo_plant_115 n (mrg h kk) x0 x1 x3 = some (mrg h' kk) := by
  unfold fFo_plant_115 at hf ⊢
  obtain ⟨a1, ema1, hf⟩ := bnd hf
  refine bst (gfR_m ema1) ?_
  obtain ⟨a2, ema2, hf⟩ := bnd hf
  refine bst (gfR_m ema2) ?_
  obtain ⟨i3, emi3, hf⟩ := bnd hf
  refine bst (rdI_m emi3) ?_
  obtain ⟨h4, i5, e7, hf⟩ := bndp hf
  refine bst2 (mFo_code e7) ?_
  obtain ⟨h6, emh6, hf⟩ := bnd hf
  refine bst (wrI_m emh6) ?_
  cases hf
  rfl
set_option maxRecDepth 20000 in
set_option maxHeartbeats 4000000 in
theorem mFo_plant_95 {kk : MH} {h' : MH} (n : Nat) (h : MH) (x0 : Nat) (x1 : Int32) (x3 : Nat) (hf : fFo_plant_95 n h x0 x1 x3 = some h') : fFo_plant_95 n (mrg h kk) x0 x1 x3 = some (mrg h' kk) := by
  unfold fFo_plant_95 at hf ⊢
  exact mFo_plant_115 n h x0 x1 x3 hf
set_option maxRecDepth 20000 in
set_option maxHeartbeats 4000000 in
theorem mFo_plant_69 {kk : MH} {h' : MH} (n : Nat) (h : MH) (x0 : Nat) (x1 : Int32) (x3 : Nat) (x4 : Int32) (x6 : Int32) (hf : fFo_plant_69 n h x0 x1 x3 x4 x6 = some h') : fFo_plant_69 n (mrg h kk) x0 x1 x3 x4 x6 = some (mrg h' kk) := by
  unfold fFo_plant_69 at hf ⊢
  refine lp_m (ψ := fun s => (mrg s.1 kk, s.2)) (fun n k69 k69' hk69 s hf => ?_) n (h, x0, x1, x3, x4, x6) hf
  obtain ⟨h, x0, x1, x3, x4, x6⟩ := s
  replace hk69 : ∀ (h : MH) (x0 : Nat) (x1 : Int32) (x3 : Nat) (x4 : Int32) (x6 : Int32), k69 (h, x0, x1, x3, x4, x6) = some h' → k69' ((mrg h kk), x0, x1, x3, x4, x6) = some (mrg h' kk) := fun h x0 x1 x3 x4 x6 => hk69 (h, x0, x1, x3, x4, x6)
  replace hf : bFo_plant_69 n k69 h x0 x1 x3 x4 x6 = some h' := hf
  show bFo_plant_69 n k69' (mrg h kk) x0 x1 x3 x4 x6 = some (mrg h' kk)
  unfold bFo_plant_69 at hf ⊢
  refine ite_m hf (fun hf => ?_) (fun hf => ?_)
  · exact mFo_plant_95 n h x0 x1 x3 hf
  refine ite_m hf (fun hf => ?_) (fun hf => ?_)
  · exact mFo_plant_95 n h x0 x1 x3 hf
  obtain ⟨h1, emh1, hf⟩ := bnd hf
  refine bst (wrI_m emh1) ?_
  exact hk69 h1 x0 x1 x3 x4 (x6 + (1:Int32)) hf
set_option maxRecDepth 20000 in
set_option maxHeartbeats 4000000 in
theorem mFo_plant_51 {kk : MH} {h' : MH} (n : Nat) (h : MH) (x0 : Nat) (x1 : Int32) (x2 : Nat) (x3 : Nat) (x4 : Int32) (x5 : Int32) (hf : fFo_plant_51 n h x0 x1 x2 x3 x4 x5 = some h') : fFo_plant_51 n (mrg h kk) x0 x1 x2 x3 x4 x5 = some (mrg h' kk) := by
  unfold fFo_plant_51 at hf ⊢
  refine ite_m hf (fun hf => ?_) (fun hf => ?_)
  · obtain ⟨a5, ema5, hf⟩ := bnd hf
    refine bst (gfR_m ema5) ?_
    obtain ⟨h6, emh6, hf⟩ := bnd hf
    refine bst (wrI_m emh6) ?_
    exact mFo_plant_69 n h6 x0 x1 x3 x4 (0:Int32) hf
  obtain ⟨a1, ema1, hf⟩ := bnd hf
  refine bst (gfR_m ema1) ?_
  obtain ⟨h2, emh2, hf⟩ := bnd hf
  refine bst (wrI_m emh2) ?_
  obtain ⟨h3, e4, hf⟩ := bnd hf
  refine bst (mFo_lower e4) ?_
  exact mFo_plant_115 n h3 x0 x1 x3 hf
set_option maxRecDepth 20000 in
set_option maxHeartbeats 4000000 in
theorem mFo_plant_32 {kk : MH} {h' : MH} (n : Nat) (h : MH) (x0 : Nat) (x1 : Int32) (x2 : Nat) (x3 : Nat) (x4 : Int32) (x5 : Int32) (hf : fFo_plant_32 n h x0 x1 x2 x3 x4 x5 = some h') : fFo_plant_32 n (mrg h kk) x0 x1 x2 x3 x4 x5 = some (mrg h' kk) := by
  unfold fFo_plant_32 at hf ⊢
  refine lp_m (ψ := fun s => (mrg s.1 kk, s.2)) (fun n k32 k32' hk32 s hf => ?_) n (h, x0, x1, x2, x3, x4, x5) hf
  obtain ⟨h, x0, x1, x2, x3, x4, x5⟩ := s
  replace hk32 : ∀ (h : MH) (x0 : Nat) (x1 : Int32) (x2 : Nat) (x3 : Nat) (x4 : Int32) (x5 : Int32), k32 (h, x0, x1, x2, x3, x4, x5) = some h' → k32' ((mrg h kk), x0, x1, x2, x3, x4, x5) = some (mrg h' kk) := fun h x0 x1 x2 x3 x4 x5 => hk32 (h, x0, x1, x2, x3, x4, x5)
  replace hf : bFo_plant_32 n k32 h x0 x1 x2 x3 x4 x5 = some h' := hf
  show bFo_plant_32 n k32' (mrg h kk) x0 x1 x2 x3 x4 x5 = some (mrg h' kk)
  unfold bFo_plant_32 at hf ⊢
  refine ite_m hf (fun hf => ?_) (fun hf => ?_)
  · exact mFo_plant_51 n h x0 x1 x2 x3 x4 x5 hf
  obtain ⟨i1, emi1, hf⟩ := bnd hf
  refine bst (rdI_m emi1) ?_
  refine ite_m hf (fun hf => ?_) (fun hf => ?_)
  · exact mFo_plant_51 n h x0 x1 x2 x3 x4 x5 hf
  exact hk32 h x0 x1 x2 x3 x4 (x5 + (-1:Int32)) hf
set_option maxRecDepth 20000 in
set_option maxHeartbeats 4000000 in
theorem mFo_plant {kk : MH} {h' : MH} {n : Nat} {h : MH} {a_0 : Nat} {i_1 : Int32} (hf : fFo_plant n h a_0 i_1 = some h') : fFo_plant n (mrg h kk) a_0 i_1 = some (mrg h' kk) := by
  unfold fFo_plant at hf ⊢
  obtain ⟨a1, ema1, hf⟩ := bnd hf
  refine bst (gfR_m ema1) ?_
  refine rdRn_m hf (fun hf => ?_) (fun a2 hf => ?_)
  · cases hf
  obtain ⟨a3, ema3, hf⟩ := bnd hf
  refine bst (gfR_m ema3) ?_
  refine rdRn_m hf (fun hf => ?_) (fun a4 hf => ?_)
  · cases hf
  obtain ⟨a5, ema5, hf⟩ := bnd hf
  refine bst (gfR_m ema5) ?_
  obtain ⟨i6, emi6, hf⟩ := bnd hf
  refine bst (rdI_m emi6) ?_
  exact mFo_plant_32 n h a_0 i_1 a2 a4 i6 (i6 - (1:Int32)) hf
set_option maxRecDepth 20000 in
set_option maxHeartbeats 4000000 in
theorem mFo_hangingEnd_12 {kk : MH} {h' : MH} {r' : Int32} (n : Nat) (h : MH) (x0 : Nat) (x1 : Int32) (x2 : Int32) (x3 : Nat) (x4 : Int32) (hf : fFo_hangingEnd_12 n h x0 x1 x2 x3 x4 = some (h', r')) : fFo_hangingEnd_12 n (mrg h kk) x0 x1 x2 x3 x4 = some (mrg h' kk, r') := by
  unfold fFo_hangingEnd_12 at hf ⊢
  refine lp_m (ψ := fun s => (mrg s.1 kk, s.2)) (fun n k12 k12' hk12 s hf => ?_) n (h, x0, x1, x2, x3, x4) hf
  obtain ⟨h, x0, x1, x2, x3, x4⟩ := s
  replace hk12 : ∀ (h : MH) (x0 : Nat) (x1 : Int32) (x2 : Int32) (x3 : Nat) (x4 : Int32), k12 (h, x0, x1, x2, x3, x4) = some (h', r') → k12' ((mrg h kk), x0, x1, x2, x3, x4) = some (mrg h' kk, r') := fun h x0 x1 x2 x3 x4 => hk12 (h, x0, x1, x2, x3, x4)
  replace hf : bFo_hangingEnd_12 n k12 h x0 x1 x2 x3 x4 = some (h', r') := hf
  show bFo_hangingEnd_12 n k12' (mrg h kk) x0 x1 x2 x3 x4 = some (mrg h' kk, r')
  unfold bFo_hangingEnd_12 at hf ⊢
  obtain ⟨a1, ema1, hf⟩ := bnd hf
  refine bst (gfR_m ema1) ?_
  obtain ⟨i2, emi2, hf⟩ := bnd hf
  refine bst (rdI_m emi2) ?_
  refine ite_m hf (fun hf => ?_) (fun hf => ?_)
  · cases hf
    rfl
  obtain ⟨i3, emi3, hf⟩ := bnd hf
  refine bst (rdI_m emi3) ?_
  obtain ⟨i4, emi4, hf⟩ := bnd hf
  refine bst (rdI_m emi4) ?_
  refine ite_m hf (fun hf => ?_) (fun hf => ?_)
  · cases hf
    rfl
  exact hk12 h x0 x1 x2 x3 (x4 + (1:Int32)) hf
set_option maxRecDepth 20000 in
set_option maxHeartbeats 4000000 in
theorem mFo_hangingEnd {kk : MH} {h' : MH} {r' : Int32} {n : Nat} {h : MH} {a_0 : Nat} {i_1 : Int32} {i_2 : Int32} (hf : fFo_hangingEnd n h a_0 i_1 i_2 = some (h', r')) : fFo_hangingEnd n (mrg h kk) a_0 i_1 i_2 = some (mrg h' kk, r') := by
  unfold fFo_hangingEnd at hf ⊢
  obtain ⟨a1, ema1, hf⟩ := bnd hf
  refine bst (gfR_m ema1) ?_
  refine rdRn_m hf (fun hf => ?_) (fun a2 hf => ?_)
  · cases hf
  exact mFo_hangingEnd_12 n h a_0 i_1 i_2 a2 (i_2 + (1:Int32)) hf
set_option maxRecDepth 20000 in
set_option maxHeartbeats 4000000 in
theorem mFo_numbered_2 {kk : MH} {h' : MH} {r' : Int32} (n : Nat) (h : MH) (x0 : Nat) (x1 : Int32) (x2 : Int32) (hf : fFo_numbered_2 n h x0 x1 x2 = some (h', r')) : fFo_numbered_2 n (mrg h kk) x0 x1 x2 = some (mrg h' kk, r') := by
  unfold fFo_numbered_2 at hf ⊢
  refine lp_m (ψ := fun s => (mrg s.1 kk, s.2)) (fun n k2 k2' hk2 s hf => ?_) n (h, x0, x1, x2) hf
  obtain ⟨h, x0, x1, x2⟩ := s
  replace hk2 : ∀ (h : MH) (x0 : Nat) (x1 : Int32) (x2 : Int32), k2 (h, x0, x1, x2) = some (h', r') → k2' ((mrg h kk), x0, x1, x2) = some (mrg h' kk, r') := fun h x0 x1 x2 => hk2 (h, x0, x1, x2)
  replace hf : bFo_numbered_2 n k2 h x0 x1 x2 = some (h', r') := hf
  show bFo_numbered_2 n k2' (mrg h kk) x0 x1 x2 = some (mrg h' kk, r')
  unfold bFo_numbered_2 at hf ⊢
  refine ite_m hf (fun hf => ?_) (fun hf => ?_)
  · cases hf
    rfl
  obtain ⟨a1, ema1, hf⟩ := bnd hf
  refine bst (gfR_m ema1) ?_
  obtain ⟨i2, emi2, hf⟩ := bnd hf
  refine bst (rdI_m emi2) ?_
  refine ite_m hf (fun hf => ?_) (fun hf => ?_)
  · cases hf
    rfl
  exact hk2 h x0 x1 (x2 + (1:Int32)) hf
set_option maxRecDepth 20000 in
set_option maxHeartbeats 4000000 in
theorem mFo_numbered {kk : MH} {h' : MH} {r' : Int32} {n : Nat} {h : MH} {a_0 : Nat} {i_1 : Int32} (hf : fFo_numbered n h a_0 i_1 = some (h', r')) : fFo_numbered n (mrg h kk) a_0 i_1 = some (mrg h' kk, r') := by
  unfold fFo_numbered at hf ⊢
  exact mFo_numbered_2 n h a_0 i_1 (0:Int32) hf
set_option maxRecDepth 20000 in
set_option maxHeartbeats 4000000 in
theorem mFo_codeWithout_36 {kk : MH} {h' : MH} {r' : Int32} {k6 k6' : (MH × Nat × Int32 × Int32 × Int32 × Int32 × Int32) → Option (MH × Int32)} (hk6 : ∀ (h : MH) (x0 : Nat) (x1 : Int32) (x2 : Int32) (x3 : Int32) (x4 : Int32) (x5 : Int32), k6 (h, x0, x1, x2, x3, x4, x5) = some (h', r') → k6' ((mrg h kk), x0, x1, x2, x3, x4, x5) = some (mrg h' kk, r')) (n : Nat) (h : MH) (x0 : Nat) (x1 : Int32) (x2 : Int32) (x3 : Int32) (x4 : Int32) (x5 : Int32) (hf : fFo_codeWithout_36 k6 n h x0 x1 x2 x3 x4 x5 = some (h', r')) : fFo_codeWithout_36 k6' n (mrg h kk) x0 x1 x2 x3 x4 x5 = some (mrg h' kk, r') := by
  unfold fFo_codeWithout_36 at hf ⊢
  exact hk6 h x0 x1 x2 x3 x4 (x5 + (1:Int32)) hf
set_option maxRecDepth 20000 in
set_option maxHeartbeats 4000000 in
theorem mFo_codeWithout_24 {kk : MH} {h' : MH} {r' : Int32} {k6 k6' : (MH × Nat × Int32 × Int32 × Int32 × Int32 × Int32) → Option (MH × Int32)} (hk6 : ∀ (h : MH) (x0 : Nat) (x1 : Int32) (x2 : Int32) (x3 : Int32) (x4 : Int32) (x5 : Int32), k6 (h, x0, x1, x2, x3, x4, x5) = some (h', r') → k6' ((mrg h kk), x0, x1, x2, x3, x4, x5) = some (mrg h' kk, r')) (n : Nat) (h : MH) (x0 : Nat) (x1 : Int32) (x2 : Int32) (x3 : Int32) (x4 : Int32) (x5 : Int32) (hf : fFo_codeWithout_24 k6 n h x0 x1 x2 x3 x4 x5 = some (h', r')) : fFo_codeWithout_24 k6' n (mrg h kk) x0 x1 x2 x3 x4 x5 = some (mrg h' kk, r') := by
  unfold fFo_codeWithout_24 at hf ⊢
  obtain ⟨i1, emi1, hf⟩ := bnd hf
  refine bst (rdI_m emi1) ?_
  exact mFo_codeWithout_36 hk6 n h x0 x1 x2 x3 ((x4 * (8:Int32)) + i1) x5 hf
set_option maxRecDepth 20000 in
set_option maxHeartbeats 4000000 in
theorem mFo_codeWithout_6 {kk : MH} {h' : MH} {r' : Int32} (n : Nat) (h : MH) (x0 : Nat) (x1 : Int32) (x2 : Int32) (x3 : Int32) (x4 : Int32) (x5 : Int32) (hf : fFo_codeWithout_6 n h x0 x1 x2 x3 x4 x5 = some (h', r')) : fFo_codeWithout_6 n (mrg h kk) x0 x1 x2 x3 x4 x5 = some (mrg h' kk, r') := by
  unfold fFo_codeWithout_6 at hf ⊢
  refine lp_m (ψ := fun s => (mrg s.1 kk, s.2)) (fun n k6 k6' hk6 s hf => ?_) n (h, x0, x1, x2, x3, x4, x5) hf
  obtain ⟨h, x0, x1, x2, x3, x4, x5⟩ := s
  replace hk6 : ∀ (h : MH) (x0 : Nat) (x1 : Int32) (x2 : Int32) (x3 : Int32) (x4 : Int32) (x5 : Int32), k6 (h, x0, x1, x2, x3, x4, x5) = some (h', r') → k6' ((mrg h kk), x0, x1, x2, x3, x4, x5) = some (mrg h' kk, r') := fun h x0 x1 x2 x3 x4 x5 => hk6 (h, x0, x1, x2, x3, x4, x5)
  replace hf : bFo_codeWithout_6 n k6 h x0 x1 x2 x3 x4 x5 = some (h', r') := hf
  show bFo_codeWithout_6 n k6' (mrg h kk) x0 x1 x2 x3 x4 x5 = some (mrg h' kk, r')
  unfold bFo_codeWithout_6 at hf ⊢
  refine ite_m hf (fun hf => ?_) (fun hf => ?_)
  · cases hf
    rfl
  refine ite_m hf (fun hf => ?_) (fun hf => ?_)
  · exact mFo_codeWithout_24 hk6 n h x0 x1 x2 x3 x4 x5 hf
  refine ite_m hf (fun hf => ?_) (fun hf => ?_)
  · exact mFo_codeWithout_36 hk6 n h x0 x1 x2 x3 x4 x5 hf
  exact mFo_codeWithout_24 hk6 n h x0 x1 x2 x3 x4 x5 hf
set_option maxRecDepth 20000 in
set_option maxHeartbeats 4000000 in
theorem mFo_codeWithout {kk : MH} {h' : MH} {r' : Int32} {n : Nat} {h : MH} {a_0 : Nat} {i_1 : Int32} {i_2 : Int32} {i_3 : Int32} (hf : fFo_codeWithout n h a_0 i_1 i_2 i_3 = some (h', r')) : fFo_codeWithout n (mrg h kk) a_0 i_1 i_2 i_3 = some (mrg h' kk, r') := by
  unfold fFo_codeWithout at hf ⊢
  exact mFo_codeWithout_6 n h a_0 i_1 i_2 i_3 (1:Int32) (0:Int32) hf
set_option maxRecDepth 20000 in
set_option maxHeartbeats 4000000 in
theorem mFo_takeApart_94 {kk : MH} {h' : MH} {k9 k9' : (MH × Nat × Int32 × Nat × Int32) → Option MH} (hk9 : ∀ (h : MH) (x0 : Nat) (x1 : Int32) (x2 : Nat) (x3 : Int32), k9 (h, x0, x1, x2, x3) = some h' → k9' ((mrg h kk), x0, x1, x2, x3) = some (mrg h' kk)) (n : Nat) (h : MH) (x0 : Nat) (x1 : Int32) (x2 : Nat) (x3 : Int32) (hf : fFo_takeApart_94 k9 n h x0 x1 x2 x3 = some h') : fFo_takeApart_94 k9' n (mrg h kk) x0 x1 x2 x3 = some (mrg h' kk) := by
  unfold fFo_takeApart_94 at hf ⊢
  exact hk9 h x0 x1 x2 (x3 + (1:Int32)) hf
set_option maxRecDepth 20000 in
set_option maxHeartbeats 4000000 in
theorem mFo_takeApart_9 {kk : MH} {h' : MH} (n : Nat) (h : MH) (x0 : Nat) (x1 : Int32) (x2 : Nat) (x3 : Int32) (hf : fFo_takeApart_9 n h x0 x1 x2 x3 = some h') : fFo_takeApart_9 n (mrg h kk) x0 x1 x2 x3 = some (mrg h' kk) := by
  unfold fFo_takeApart_9 at hf ⊢
  refine lp_m (ψ := fun s => (mrg s.1 kk, s.2)) (fun n k9 k9' hk9 s hf => ?_) n (h, x0, x1, x2, x3) hf
  obtain ⟨h, x0, x1, x2, x3⟩ := s
  replace hk9 : ∀ (h : MH) (x0 : Nat) (x1 : Int32) (x2 : Nat) (x3 : Int32), k9 (h, x0, x1, x2, x3) = some h' → k9' ((mrg h kk), x0, x1, x2, x3) = some (mrg h' kk) := fun h x0 x1 x2 x3 => hk9 (h, x0, x1, x2, x3)
  replace hf : bFo_takeApart_9 n k9 h x0 x1 x2 x3 = some h' := hf
  show bFo_takeApart_9 n k9' (mrg h kk) x0 x1 x2 x3 = some (mrg h' kk)
  unfold bFo_takeApart_9 at hf ⊢
  obtain ⟨a1, ema1, hf⟩ := bnd hf
  refine bst (gfR_m ema1) ?_
  obtain ⟨i2, emi2, hf⟩ := bnd hf
  refine bst (rdI_m emi2) ?_
  refine ite_m hf (fun hf => ?_) (fun hf => ?_)
  · cases hf
    rfl
  obtain ⟨i3, emi3, hf⟩ := bnd hf
  refine bst (rdI_m emi3) ?_
  refine ite_m hf (fun hf => ?_) (fun hf => ?_)
  · obtain ⟨u30, cu30, hf⟩ := bnd hf
    refine bst (chk_m (by decide) cu30) ?_
    obtain ⟨h4, i5, e29, hf⟩ := bndp hf
    refine bst2 (mFo_hangingEnd e29) ?_
    obtain ⟨h6, i7, e28, hf⟩ := bndp hf
    refine bst2 (mFo_code e28) ?_
    obtain ⟨u27, cu27, hf⟩ := bnd hf
    refine bst (chk_m (by decide) cu27) ?_
    obtain ⟨h8, i9, e26, hf⟩ := bndp hf
    refine bst2 (mFo_numbered e26) ?_
    obtain ⟨a10, ema10, hf⟩ := bnd hf
    refine bst (gfR_m ema10) ?_
    obtain ⟨i11, emi11, hf⟩ := bnd hf
    refine bst (rdI_m emi11) ?_
    obtain ⟨h12, i13, e25, hf⟩ := bndp hf
    refine bst2 (mFo_codeWithout e25) ?_
    obtain ⟨u24, cu24, hf⟩ := bnd hf
    refine bst (chk_m (by decide) cu24) ?_
    obtain ⟨h14, i15, e23, hf⟩ := bndp hf
    refine bst2 (mFo_numbered e23) ?_
    obtain ⟨a16, ema16, hf⟩ := bnd hf
    refine bst (gfR_m ema16) ?_
    refine rdRn_m hf (fun hf => ?_) (fun a17 hf => ?_)
    · cases hf
    obtain ⟨h18, emh18, hf⟩ := bnd hf
    refine bst (wrI_m emh18) ?_
    obtain ⟨a19, ema19, hf⟩ := bnd hf
    refine bst (gfR_m ema19) ?_
    obtain ⟨h20, emh20, hf⟩ := bnd hf
    refine bst (wrI_m emh20) ?_
    obtain ⟨a21, ema21, hf⟩ := bnd hf
    refine bst (gfR_m ema21) ?_
    obtain ⟨h22, emh22, hf⟩ := bnd hf
    refine bst (wrI_m emh22) ?_
    exact mFo_takeApart_94 hk9 n h22 x0 x1 x2 x3 hf
  exact mFo_takeApart_94 hk9 n h x0 x1 x2 x3 hf
set_option maxRecDepth 20000 in
set_option maxHeartbeats 4000000 in
theorem mFo_takeApart {kk : MH} {h' : MH} {n : Nat} {h : MH} {a_0 : Nat} {i_1 : Int32} (hf : fFo_takeApart n h a_0 i_1 = some h') : fFo_takeApart n (mrg h kk) a_0 i_1 = some (mrg h' kk) := by
  unfold fFo_takeApart at hf ⊢
  obtain ⟨a1, ema1, hf⟩ := bnd hf
  refine bst (gfR_m ema1) ?_
  refine rdRn_m hf (fun hf => ?_) (fun a2 hf => ?_)
  · cases hf
  exact mFo_takeApart_9 n h a_0 i_1 a2 (1:Int32) hf
set_option maxRecDepth 20000 in
set_option maxHeartbeats 4000000 in
theorem mFo_sameAtEnd_12 {kk : MH} {h' : MH} {r' : Int32} (n : Nat) (h : MH) (x0 : Nat) (x1 : Int32) (x2 : Int32) (x3 : Int32) (x4 : Int32) (hf : fFo_sameAtEnd_12 n h x0 x1 x2 x3 x4 = some (h', r')) : fFo_sameAtEnd_12 n (mrg h kk) x0 x1 x2 x3 x4 = some (mrg h' kk, r') := by
  unfold fFo_sameAtEnd_12 at hf ⊢
  refine lp_m (ψ := fun s => (mrg s.1 kk, s.2)) (fun n k12 k12' hk12 s hf => ?_) n (h, x0, x1, x2, x3, x4) hf
  obtain ⟨h, x0, x1, x2, x3, x4⟩ := s
  replace hk12 : ∀ (h : MH) (x0 : Nat) (x1 : Int32) (x2 : Int32) (x3 : Int32) (x4 : Int32), k12 (h, x0, x1, x2, x3, x4) = some (h', r') → k12' ((mrg h kk), x0, x1, x2, x3, x4) = some (mrg h' kk, r') := fun h x0 x1 x2 x3 x4 => hk12 (h, x0, x1, x2, x3, x4)
  replace hf : bFo_sameAtEnd_12 n k12 h x0 x1 x2 x3 x4 = some (h', r') := hf
  show bFo_sameAtEnd_12 n k12' (mrg h kk) x0 x1 x2 x3 x4 = some (mrg h' kk, r')
  unfold bFo_sameAtEnd_12 at hf ⊢
  refine ite_m hf (fun hf => ?_) (fun hf => ?_)
  · cases hf
    rfl
  refine ite_m hf (fun hf => ?_) (fun hf => ?_)
  · cases hf
    rfl
  obtain ⟨a1, ema1, hf⟩ := bnd hf
  refine bst (gfR_m ema1) ?_
  obtain ⟨i2, emi2, hf⟩ := bnd hf
  refine bst (rdI_m emi2) ?_
  obtain ⟨a3, ema3, hf⟩ := bnd hf
  refine bst (gfR_m ema3) ?_
  obtain ⟨i4, emi4, hf⟩ := bnd hf
  refine bst (rdI_m emi4) ?_
  refine ite_m hf (fun hf => ?_) (fun hf => ?_)
  · obtain ⟨a5, ema5, hf⟩ := bnd hf
    refine bst (gfR_m ema5) ?_
    obtain ⟨i6, emi6, hf⟩ := bnd hf
    refine bst (rdI_m emi6) ?_
    exact hk12 h x0 x1 (x2 + (1:Int32)) i6 (x4 + (1:Int32)) hf
  cases hf
  rfl
set_option maxRecDepth 20000 in
set_option maxHeartbeats 4000000 in
theorem mFo_sameAtEnd {kk : MH} {h' : MH} {r' : Int32} {n : Nat} {h : MH} {a_0 : Nat} {i_1 : Int32} (hf : fFo_sameAtEnd n h a_0 i_1 = some (h', r')) : fFo_sameAtEnd n (mrg h kk) a_0 i_1 = some (mrg h' kk, r') := by
  unfold fFo_sameAtEnd at hf ⊢
  obtain ⟨a1, ema1, hf⟩ := bnd hf
  refine bst (gfR_m ema1) ?_
  obtain ⟨i2, emi2, hf⟩ := bnd hf
  refine bst (rdI_m emi2) ?_
  exact mFo_sameAtEnd_12 n h a_0 i_1 (1:Int32) i2 (0:Int32) hf
set_option maxRecDepth 20000 in
set_option maxHeartbeats 4000000 in
theorem mFo_measure_63 {kk : MH} {h' : MH} (n : Nat) (h : MH) (x0 : Nat) (x1 : Int32) (x4 : Int32) (hf : fFo_measure_63 n h x0 x1 x4 = some h') : fFo_measure_63 n (mrg h kk) x0 x1 x4 = some (mrg h' kk) := by
  unfold fFo_measure_63 at hf ⊢
  refine lp_m (ψ := fun s => (mrg s.1 kk, s.2)) (fun n k63 k63' hk63 s hf => ?_) n (h, x0, x1, x4) hf
  obtain ⟨h, x0, x1, x4⟩ := s
  replace hk63 : ∀ (h : MH) (x0 : Nat) (x1 : Int32) (x4 : Int32), k63 (h, x0, x1, x4) = some h' → k63' ((mrg h kk), x0, x1, x4) = some (mrg h' kk) := fun h x0 x1 x4 => hk63 (h, x0, x1, x4)
  replace hf : bFo_measure_63 n k63 h x0 x1 x4 = some h' := hf
  show bFo_measure_63 n k63' (mrg h kk) x0 x1 x4 = some (mrg h' kk)
  unfold bFo_measure_63 at hf ⊢
  obtain ⟨a1, ema1, hf⟩ := bnd hf
  refine bst (gfR_m ema1) ?_
  obtain ⟨i2, emi2, hf⟩ := bnd hf
  refine bst (rdI_m emi2) ?_
  refine ite_m hf (fun hf => ?_) (fun hf => ?_)
  · cases hf
    rfl
  obtain ⟨a3, ema3, hf⟩ := bnd hf
  refine bst (gfR_m ema3) ?_
  obtain ⟨i4, emi4, hf⟩ := bnd hf
  refine bst (rdI_m emi4) ?_
  obtain ⟨u9, cu9, hf⟩ := bnd hf
  refine bst (chk_m (by decide) cu9) ?_
  obtain ⟨h5, i6, e8, hf⟩ := bndp hf
  refine bst2 (mFo_hangingEnd e8) ?_
  obtain ⟨h7, emh7, hf⟩ := bnd hf
  refine bst (wrI_m emh7) ?_
  exact hk63 h7 x0 x1 (x4 + (1:Int32)) hf
set_option maxRecDepth 20000 in
set_option maxHeartbeats 4000000 in
theorem mFo_measure {kk : MH} {h' : MH} {n : Nat} {h : MH} {a_0 : Nat} {i_1 : Int32} (hf : fFo_measure n h a_0 i_1 = some h') : fFo_measure n (mrg h kk) a_0 i_1 = some (mrg h' kk) := by
  unfold fFo_measure at hf ⊢
  obtain ⟨a1, ema1, hf⟩ := bnd hf
  refine bst (gfR_m ema1) ?_
  obtain ⟨i2, emi2, hf⟩ := bnd hf
  refine bst (rdI_m emi2) ?_
  obtain ⟨a3, ema3, hf⟩ := bnd hf
  refine bst (gfR_m ema3) ?_
  obtain ⟨i4, emi4, hf⟩ := bnd hf
  refine bst (rdI_m emi4) ?_
  obtain ⟨a5, ema5, hf⟩ := bnd hf
  refine bst (gfR_m ema5) ?_
  obtain ⟨a6, ema6, hf⟩ := bnd hf
  refine bst (gfR_m ema6) ?_
  obtain ⟨i7, emi7, hf⟩ := bnd hf
  refine bst (rdI_m emi7) ?_
  obtain ⟨h8, emh8, hf⟩ := bnd hf
  refine bst (wrI_m emh8) ?_
  obtain ⟨a9, ema9, hf⟩ := bnd hf
  refine bst (gfR_m ema9) ?_
  obtain ⟨a10, ema10, hf⟩ := bnd hf
  refine bst (gfR_m ema10) ?_
  obtain ⟨i11, emi11, hf⟩ := bnd hf
  refine bst (rdI_m emi11) ?_
  obtain ⟨a12, ema12, hf⟩ := bnd hf
  refine bst (gfR_m ema12) ?_
  obtain ⟨i13, emi13, hf⟩ := bnd hf
  refine bst (rdI_m emi13) ?_
  obtain ⟨u20, cu20, hf⟩ := bnd hf
  refine bst (chk_m (by decide) cu20) ?_
  obtain ⟨h14, i15, e19, hf⟩ := bndp hf
  refine bst2 (mFo_sameAtEnd e19) ?_
  obtain ⟨h16, emh16, hf⟩ := bnd hf
  refine bst (wrI_m emh16) ?_
  obtain ⟨a17, ema17, hf⟩ := bnd hf
  refine bst (gfR_m ema17) ?_
  obtain ⟨h18, emh18, hf⟩ := bnd hf
  refine bst (wrI_m emh18) ?_
  exact mFo_measure_63 n h18 a_0 i_1 (0:Int32) hf
set_option maxRecDepth 20000 in
set_option maxHeartbeats 4000000 in
theorem mFo_init_94 {kk : MH} {h' : MH} {k86 k86' : (MH × Nat × Int32) → Option MH} (hk86 : ∀ (h : MH) (x0 : Nat) (x1 : Int32), k86 (h, x0, x1) = some h' → k86' ((mrg h kk), x0, x1) = some (mrg h' kk)) (n : Nat) (h : MH) (x0 : Nat) (x1 : Int32) (x2 : Int32) (hf : fFo_init_94 k86 n h x0 x1 x2 = some h') : fFo_init_94 k86' n (mrg h kk) x0 x1 x2 = some (mrg h' kk) := by
  unfold fFo_init_94 at hf ⊢
  refine lp_m (ψ := fun s => (mrg s.1 kk, s.2)) (fun n k94 k94' hk94 s hf => ?_) n (h, x0, x1, x2) hf
  obtain ⟨h, x0, x1, x2⟩ := s
  replace hk94 : ∀ (h : MH) (x0 : Nat) (x1 : Int32) (x2 : Int32), k94 (h, x0, x1, x2) = some h' → k94' ((mrg h kk), x0, x1, x2) = some (mrg h' kk) := fun h x0 x1 x2 => hk94 (h, x0, x1, x2)
  replace hf : bFo_init_94 k86 n k94 h x0 x1 x2 = some h' := hf
  show bFo_init_94 k86' n k94' (mrg h kk) x0 x1 x2 = some (mrg h' kk)
  unfold bFo_init_94 at hf ⊢
  refine ite_m hf (fun hf => ?_) (fun hf => ?_)
  · exact hk86 h x0 (x1 + (1:Int32)) hf
  obtain ⟨a1, ema1, hf⟩ := bnd hf
  refine bst (gfR_m ema1) ?_
  refine rdRn_m hf (fun hf => ?_) (fun a2 hf => ?_)
  · cases hf
  obtain ⟨h3, emh3, hf⟩ := bnd hf
  refine bst (wrI_m emh3) ?_
  exact hk94 h3 x0 x1 (x2 + (1:Int32)) hf
set_option maxRecDepth 20000 in
set_option maxHeartbeats 4000000 in
theorem mFo_init_128 {kk : MH} {h' : MH} (n : Nat) (h : MH) (x0 : Nat) (x1 : Int32) (hf : fFo_init_128 n h x0 x1 = some h') : fFo_init_128 n (mrg h kk) x0 x1 = some (mrg h' kk) := by
  unfold fFo_init_128 at hf ⊢
  refine lp_m (ψ := fun s => (mrg s.1 kk, s.2)) (fun n k128 k128' hk128 s hf => ?_) n (h, x0, x1) hf
  obtain ⟨h, x0, x1⟩ := s
  replace hk128 : ∀ (h : MH) (x0 : Nat) (x1 : Int32), k128 (h, x0, x1) = some h' → k128' ((mrg h kk), x0, x1) = some (mrg h' kk) := fun h x0 x1 => hk128 (h, x0, x1)
  replace hf : bFo_init_128 n k128 h x0 x1 = some h' := hf
  show bFo_init_128 n k128' (mrg h kk) x0 x1 = some (mrg h' kk)
  unfold bFo_init_128 at hf ⊢
  refine ite_m hf (fun hf => ?_) (fun hf => ?_)
  · cases hf
    rfl
  obtain ⟨u9, cu9, hf⟩ := bnd hf
  refine bst (chk_m (by decide) cu9) ?_
  obtain ⟨h1, e8, hf⟩ := bnd hf
  refine bst (mFo_plant e8) ?_
  obtain ⟨u7, cu7, hf⟩ := bnd hf
  refine bst (chk_m (by decide) cu7) ?_
  obtain ⟨h2, e6, hf⟩ := bnd hf
  refine bst (mFo_takeApart e6) ?_
  obtain ⟨u5, cu5, hf⟩ := bnd hf
  refine bst (chk_m (by decide) cu5) ?_
  obtain ⟨h3, e4, hf⟩ := bnd hf
  refine bst (mFo_measure e4) ?_
  exact hk128 h3 x0 (x1 + (1:Int32)) hf
set_option maxRecDepth 20000 in
set_option maxHeartbeats 4000000 in
theorem mFo_init_86 {kk : MH} {h' : MH} (n : Nat) (h : MH) (x0 : Nat) (x1 : Int32) (hf : fFo_init_86 n h x0 x1 = some h') : fFo_init_86 n (mrg h kk) x0 x1 = some (mrg h' kk) := by
  unfold fFo_init_86 at hf ⊢
  refine lp_m (ψ := fun s => (mrg s.1 kk, s.2)) (fun n k86 k86' hk86 s hf => ?_) n (h, x0, x1) hf
  obtain ⟨h, x0, x1⟩ := s
  replace hk86 : ∀ (h : MH) (x0 : Nat) (x1 : Int32), k86 (h, x0, x1) = some h' → k86' ((mrg h kk), x0, x1) = some (mrg h' kk) := fun h x0 x1 => hk86 (h, x0, x1)
  replace hf : bFo_init_86 n k86 h x0 x1 = some h' := hf
  show bFo_init_86 n k86' (mrg h kk) x0 x1 = some (mrg h' kk)
  unfold bFo_init_86 at hf ⊢
  refine ite_m hf (fun hf => ?_) (fun hf => ?_)
  · obtain ⟨u3, cu3, hf⟩ := bnd hf
    refine bst (chk_m (by decide) cu3) ?_
    obtain ⟨h1, e2, hf⟩ := bnd hf
    refine bst (mFo_plantFirst e2) ?_
    exact mFo_init_128 n h1 x0 (1:Int32) hf
  exact mFo_init_94 hk86 n h x0 x1 (0:Int32) hf
set_option maxRecDepth 20000 in
set_option maxHeartbeats 4000000 in
theorem mFo_init {kk : MH} {h' : MH} {n : Nat} {h : MH} {a_0 : Nat} (hf : fFo_init n h a_0 = some h') : fFo_init n (mrg h kk) a_0 = some (mrg h' kk) := by
  unfold fFo_init at hf ⊢
  refine naM_m hf (fun h1 a2 hf => ?_)
  obtain ⟨h3, emh3, hf⟩ := bnd hf
  refine bst (pf_m (by intro q; cases q) emh3) ?_
  refine naI_m hf (fun h4 a5 hf => ?_)
  obtain ⟨h6, emh6, hf⟩ := bnd hf
  refine bst (pf_m (by intro q; cases q) emh6) ?_
  refine naI_m hf (fun h7 a8 hf => ?_)
  obtain ⟨h9, emh9, hf⟩ := bnd hf
  refine bst (pf_m (by intro q; cases q) emh9) ?_
  refine naI_m hf (fun h10 a11 hf => ?_)
  obtain ⟨h12, emh12, hf⟩ := bnd hf
  refine bst (pf_m (by intro q; cases q) emh12) ?_
  refine naI_m hf (fun h13 a14 hf => ?_)
  obtain ⟨h15, emh15, hf⟩ := bnd hf
  refine bst (pf_m (by intro q; cases q) emh15) ?_
  refine naI_m hf (fun h16 a17 hf => ?_)
  obtain ⟨h18, emh18, hf⟩ := bnd hf
  refine bst (pf_m (by intro q; cases q) emh18) ?_
  refine naI_m hf (fun h19 a20 hf => ?_)
  obtain ⟨h21, emh21, hf⟩ := bnd hf
  refine bst (pf_m (by intro q; cases q) emh21) ?_
  refine naM_m hf (fun h22 a23 hf => ?_)
  obtain ⟨h24, emh24, hf⟩ := bnd hf
  refine bst (pf_m (by intro q; cases q) emh24) ?_
  refine naI_m hf (fun h25 a26 hf => ?_)
  obtain ⟨h27, emh27, hf⟩ := bnd hf
  refine bst (pf_m (by intro q; cases q) emh27) ?_
  exact mFo_init_86 n h27 a_0 (0:Int32) hf
set_option maxRecDepth 20000 in
set_option maxHeartbeats 4000000 in
theorem mWe_init {kk : MH} {h' : MH} {h : MH} {a_0 : Nat} {a_1 : Nat} {a_2 : Nat} (hf : fWe_init h a_0 a_1 a_2 = some h') : fWe_init (mrg h kk) a_0 a_1 a_2 = some (mrg h' kk) := by
  unfold fWe_init at hf ⊢
  refine naL_m hf (fun h1 a2 hf => ?_)
  obtain ⟨h3, emh3, hf⟩ := bnd hf
  refine bst (pf_m (by intro q; cases q) emh3) ?_
  refine naL_m hf (fun h4 a5 hf => ?_)
  obtain ⟨h6, emh6, hf⟩ := bnd hf
  refine bst (pf_m (by intro q; cases q) emh6) ?_
  obtain ⟨h7, emh7, hf⟩ := bnd hf
  refine bst (pf_m (by intro q; cases q) emh7) ?_
  obtain ⟨h8, emh8, hf⟩ := bnd hf
  refine bst (pf_m (by intro q; cases q) emh8) ?_
  cases hf
  rfl
set_option maxRecDepth 20000 in
set_option maxHeartbeats 4000000 in
theorem mSh_init {kk : MH} {h' : MH} {h : MH} {a_0 : Nat} {a_1 : Nat} (hf : fSh_init h a_0 a_1 = some h') : fSh_init (mrg h kk) a_0 a_1 = some (mrg h' kk) := by
  unfold fSh_init at hf ⊢
  refine naL_m hf (fun h1 a2 hf => ?_)
  obtain ⟨h3, emh3, hf⟩ := bnd hf
  refine bst (pf_m (by intro q; cases q) emh3) ?_
  refine naL_m hf (fun h4 a5 hf => ?_)
  obtain ⟨h6, emh6, hf⟩ := bnd hf
  refine bst (pf_m (by intro q; cases q) emh6) ?_
  obtain ⟨h7, emh7, hf⟩ := bnd hf
  refine bst (pf_m (by intro q; cases q) emh7) ?_
  cases hf
  rfl
set_option maxRecDepth 20000 in
set_option maxHeartbeats 4000000 in
theorem mTr_init {kk : MH} {h' : MH} {h : MH} {a_0 : Nat} (hf : fTr_init h a_0 = some h') : fTr_init (mrg h kk) a_0 = some (mrg h' kk) := by
  unfold fTr_init at hf ⊢
  refine naI_m hf (fun h1 a2 hf => ?_)
  obtain ⟨h3, emh3, hf⟩ := bnd hf
  refine bst (pf_m (by intro q; cases q) emh3) ?_
  obtain ⟨h4, emh4, hf⟩ := bnd hf
  refine bst (pf_m (by intro q; cases q) emh4) ?_
  cases hf
  rfl
set_option maxRecDepth 20000 in
set_option maxHeartbeats 4000000 in
theorem mSt_init {kk : MH} {h' : MH} {h : MH} {a_0 : Nat} (hf : fSt_init h a_0 = some h') : fSt_init (mrg h kk) a_0 = some (mrg h' kk) := by
  unfold fSt_init at hf ⊢
  refine naL_m hf (fun h1 a2 hf => ?_)
  obtain ⟨h3, emh3, hf⟩ := bnd hf
  refine bst (pf_m (by intro q; cases q) emh3) ?_
  obtain ⟨h4, emh4, hf⟩ := bnd hf
  refine bst (pf_m (by intro q; cases q) emh4) ?_
  obtain ⟨h5, emh5, hf⟩ := bnd hf
  refine bst (pf_m (by intro q; cases q) emh5) ?_
  cases hf
  rfl
set_option maxRecDepth 20000 in
set_option maxHeartbeats 4000000 in
theorem mX_init_16 {kk : MH} {h' : MH} (n : Nat) (h : MH) (x0 : Nat) (hf : fX_init_16 n h x0 = some h') : fX_init_16 n (mrg h kk) x0 = some (mrg h' kk) := by
  unfold fX_init_16 at hf ⊢
  refine alc_m (by decide) hf (fun h1 a2 hf => ?_)
  obtain ⟨h3, e80, hf⟩ := bnd hf
  refine bst (mFo_init e80) ?_
  obtain ⟨h4, emh4, hf⟩ := bnd hf
  refine bst (pf_m (by intro q; cases q) emh4) ?_
  refine alc_m (by decide) hf (fun h5 a6 hf => ?_)
  obtain ⟨a7, ema7, hf⟩ := bnd hf
  refine bst (gfR_m ema7) ?_
  obtain ⟨a8, ema8, hf⟩ := bnd hf
  refine bst (gfR_m ema8) ?_
  obtain ⟨h9, e79, hf⟩ := bnd hf
  refine bst (mWe_init e79) ?_
  obtain ⟨h10, emh10, hf⟩ := bnd hf
  refine bst (pf_m (by intro q; cases q) emh10) ?_
  refine alc_m (by decide) hf (fun h11 a12 hf => ?_)
  obtain ⟨a13, ema13, hf⟩ := bnd hf
  refine bst (gfR_m ema13) ?_
  obtain ⟨h14, e78, hf⟩ := bnd hf
  refine bst (mSh_init e78) ?_
  obtain ⟨h15, emh15, hf⟩ := bnd hf
  refine bst (pf_m (by intro q; cases q) emh15) ?_
  refine alc_m (by decide) hf (fun h16 a17 hf => ?_)
  obtain ⟨h18, e77, hf⟩ := bnd hf
  refine bst (mTr_init e77) ?_
  obtain ⟨h19, emh19, hf⟩ := bnd hf
  refine bst (pf_m (by intro q; cases q) emh19) ?_
  refine naR_m hf (fun h20 a21 hf => ?_)
  obtain ⟨h22, emh22, hf⟩ := bnd hf
  refine bst (pf_m (by intro q; cases q) emh22) ?_
  obtain ⟨a23, ema23, hf⟩ := bnd hf
  refine bst (gfR_m ema23) ?_
  refine alc_m (by decide) hf (fun h24 a25 hf => ?_)
  obtain ⟨h26, e76, hf⟩ := bnd hf
  refine bst (mSt_init e76) ?_
  obtain ⟨h27, emh27, hf⟩ := bnd hf
  refine bst (wrO_m emh27) ?_
  obtain ⟨a28, ema28, hf⟩ := bnd hf
  refine bst (gfR_m ema28) ?_
  refine alc_m (by decide) hf (fun h29 a30 hf => ?_)
  obtain ⟨h31, e75, hf⟩ := bnd hf
  refine bst (mSt_init e75) ?_
  obtain ⟨h32, emh32, hf⟩ := bnd hf
  refine bst (wrO_m emh32) ?_
  obtain ⟨a33, ema33, hf⟩ := bnd hf
  refine bst (gfR_m ema33) ?_
  refine alc_m (by decide) hf (fun h34 a35 hf => ?_)
  obtain ⟨h36, e74, hf⟩ := bnd hf
  refine bst (mSt_init e74) ?_
  obtain ⟨h37, emh37, hf⟩ := bnd hf
  refine bst (wrO_m emh37) ?_
  obtain ⟨a38, ema38, hf⟩ := bnd hf
  refine bst (gfR_m ema38) ?_
  refine alc_m (by decide) hf (fun h39 a40 hf => ?_)
  obtain ⟨h41, e73, hf⟩ := bnd hf
  refine bst (mSt_init e73) ?_
  obtain ⟨h42, emh42, hf⟩ := bnd hf
  refine bst (wrO_m emh42) ?_
  obtain ⟨a43, ema43, hf⟩ := bnd hf
  refine bst (gfR_m ema43) ?_
  refine alc_m (by decide) hf (fun h44 a45 hf => ?_)
  obtain ⟨h46, e72, hf⟩ := bnd hf
  refine bst (mSt_init e72) ?_
  obtain ⟨h47, emh47, hf⟩ := bnd hf
  refine bst (wrO_m emh47) ?_
  obtain ⟨a48, ema48, hf⟩ := bnd hf
  refine bst (gfR_m ema48) ?_
  refine alc_m (by decide) hf (fun h49 a50 hf => ?_)
  obtain ⟨h51, e71, hf⟩ := bnd hf
  refine bst (mSt_init e71) ?_
  obtain ⟨h52, emh52, hf⟩ := bnd hf
  refine bst (wrO_m emh52) ?_
  obtain ⟨a53, ema53, hf⟩ := bnd hf
  refine bst (gfR_m ema53) ?_
  refine alc_m (by decide) hf (fun h54 a55 hf => ?_)
  obtain ⟨h56, e70, hf⟩ := bnd hf
  refine bst (mSt_init e70) ?_
  obtain ⟨h57, emh57, hf⟩ := bnd hf
  refine bst (wrO_m emh57) ?_
  obtain ⟨a58, ema58, hf⟩ := bnd hf
  refine bst (gfR_m ema58) ?_
  refine alc_m (by decide) hf (fun h59 a60 hf => ?_)
  obtain ⟨h61, e69, hf⟩ := bnd hf
  refine bst (mSt_init e69) ?_
  obtain ⟨h62, emh62, hf⟩ := bnd hf
  refine bst (wrO_m emh62) ?_
  refine naR_m hf (fun h63 a64 hf => ?_)
  obtain ⟨h65, emh65, hf⟩ := bnd hf
  refine bst (pf_m (by intro q; cases q) emh65) ?_
  refine naL_m hf (fun h66 a67 hf => ?_)
  obtain ⟨h68, emh68, hf⟩ := bnd hf
  refine bst (pf_m (by intro q; cases q) emh68) ?_
  cases hf
  rfl
set_option maxRecDepth 20000 in
set_option maxHeartbeats 4000000 in
theorem mX_init {kk : MH} {h' : MH} {n : Nat} {h : MH} {a_0 : Nat} {i_1 : Int32} (hf : fX_init n h a_0 i_1 = some h') : fX_init n (mrg h kk) a_0 i_1 = some (mrg h' kk) := by
  unfold fX_init at hf ⊢
  refine alc_m (by decide) hf (fun h1 a2 hf => ?_)
  obtain ⟨h3, e5, hf⟩ := bnd hf
  refine bst (mMo_init e5) ?_
  obtain ⟨h4, emh4, hf⟩ := bnd hf
  refine bst (pf_m (by intro q; cases q) emh4) ?_
  exact mX_init_16 n h4 a_0 hf
set_option maxRecDepth 20000 in
set_option maxHeartbeats 4000000 in
theorem mFo_howMany_23 {kk : MH} {h' : MH} {r' : Int32} {k4 k4' : (MH × Nat × Int32 × Int32 × Int32) → Option (MH × Int32)} (hk4 : ∀ (h : MH) (x0 : Nat) (x1 : Int32) (x2 : Int32) (x3 : Int32), k4 (h, x0, x1, x2, x3) = some (h', r') → k4' ((mrg h kk), x0, x1, x2, x3) = some (mrg h' kk, r')) (n : Nat) (h : MH) (x0 : Nat) (x1 : Int32) (x2 : Int32) (x3 : Int32) (hf : fFo_howMany_23 k4 n h x0 x1 x2 x3 = some (h', r')) : fFo_howMany_23 k4' n (mrg h kk) x0 x1 x2 x3 = some (mrg h' kk, r') := by
  unfold fFo_howMany_23 at hf ⊢
  exact hk4 h x0 x1 x2 (x3 + (1:Int32)) hf
set_option maxRecDepth 20000 in
set_option maxHeartbeats 4000000 in
theorem mFo_howMany_4 {kk : MH} {h' : MH} {r' : Int32} (n : Nat) (h : MH) (x0 : Nat) (x1 : Int32) (x2 : Int32) (x3 : Int32) (hf : fFo_howMany_4 n h x0 x1 x2 x3 = some (h', r')) : fFo_howMany_4 n (mrg h kk) x0 x1 x2 x3 = some (mrg h' kk, r') := by
  unfold fFo_howMany_4 at hf ⊢
  refine lp_m (ψ := fun s => (mrg s.1 kk, s.2)) (fun n k4 k4' hk4 s hf => ?_) n (h, x0, x1, x2, x3) hf
  obtain ⟨h, x0, x1, x2, x3⟩ := s
  replace hk4 : ∀ (h : MH) (x0 : Nat) (x1 : Int32) (x2 : Int32) (x3 : Int32), k4 (h, x0, x1, x2, x3) = some (h', r') → k4' ((mrg h kk), x0, x1, x2, x3) = some (mrg h' kk, r') := fun h x0 x1 x2 x3 => hk4 (h, x0, x1, x2, x3)
  replace hf : bFo_howMany_4 n k4 h x0 x1 x2 x3 = some (h', r') := hf
  show bFo_howMany_4 n k4' (mrg h kk) x0 x1 x2 x3 = some (mrg h' kk, r')
  unfold bFo_howMany_4 at hf ⊢
  refine ite_m hf (fun hf => ?_) (fun hf => ?_)
  · cases hf
    rfl
  obtain ⟨a1, ema1, hf⟩ := bnd hf
  refine bst (gfR_m ema1) ?_
  obtain ⟨i2, emi2, hf⟩ := bnd hf
  refine bst (rdI_m emi2) ?_
  refine ite_m hf (fun hf => ?_) (fun hf => ?_)
  · exact mFo_howMany_23 hk4 n h x0 x1 (x2 + (1:Int32)) x3 hf
  exact mFo_howMany_23 hk4 n h x0 x1 x2 x3 hf
set_option maxRecDepth 20000 in
set_option maxHeartbeats 4000000 in
theorem mFo_howMany {kk : MH} {h' : MH} {r' : Int32} {n : Nat} {h : MH} {a_0 : Nat} {i_1 : Int32} (hf : fFo_howMany n h a_0 i_1 = some (h', r')) : fFo_howMany n (mrg h kk) a_0 i_1 = some (mrg h' kk, r') := by
  unfold fFo_howMany at hf ⊢
  exact mFo_howMany_4 n h a_0 i_1 (0:Int32) (0:Int32) hf
set_option maxRecDepth 20000 in
set_option maxHeartbeats 4000000 in
theorem mM_in {kk : MH} {h' : MH} {r' : Int32} {h : MH} {j_0 : Int64} {j_1 : Int64} {j_2 : Int64} (hf : fM_in h j_0 j_1 j_2 = some (h', r')) : fM_in (mrg h kk) j_0 j_1 j_2 = some (mrg h' kk, r') := by
  unfold fM_in at hf ⊢
  refine ite_m hf (fun hf => ?_) (fun hf => ?_)
  · exact retZ_m hf
  refine ite_m hf (fun hf => ?_) (fun hf => ?_)
  · exact retZ_m hf
  exact retZ_m hf
set_option maxRecDepth 20000 in
set_option maxHeartbeats 4000000 in
theorem mM_isPrime_39 {kk : MH} {h' : MH} {r' : Int32} {k13 k13' : (MH × Int32 × Int32 × Int32) → Option (MH × Int32)} (hk13 : ∀ (h : MH) (x0 : Int32) (x1 : Int32) (x2 : Int32), k13 (h, x0, x1, x2) = some (h', r') → k13' ((mrg h kk), x0, x1, x2) = some (mrg h' kk, r')) (n : Nat) (h : MH) (s0 : Int32) (x0 : Int32) (x2 : Int32) (hf : fM_isPrime_39 k13 n h s0 x0 x2 = some (h', r')) : fM_isPrime_39 k13' n (mrg h kk) s0 x0 x2 = some (mrg h' kk, r') := by
  unfold fM_isPrime_39 at hf ⊢
  exact hk13 h x0 s0 (x2 + (1:Int32)) hf
set_option maxRecDepth 20000 in
set_option maxHeartbeats 4000000 in
theorem mM_isPrime_13 {kk : MH} {h' : MH} {r' : Int32} (n : Nat) (h : MH) (x0 : Int32) (x1 : Int32) (x2 : Int32) (hf : fM_isPrime_13 n h x0 x1 x2 = some (h', r')) : fM_isPrime_13 n (mrg h kk) x0 x1 x2 = some (mrg h' kk, r') := by
  unfold fM_isPrime_13 at hf ⊢
  refine lp_m (ψ := fun s => (mrg s.1 kk, s.2)) (fun n k13 k13' hk13 s hf => ?_) n (h, x0, x1, x2) hf
  obtain ⟨h, x0, x1, x2⟩ := s
  replace hk13 : ∀ (h : MH) (x0 : Int32) (x1 : Int32) (x2 : Int32), k13 (h, x0, x1, x2) = some (h', r') → k13' ((mrg h kk), x0, x1, x2) = some (mrg h' kk, r') := fun h x0 x1 x2 => hk13 (h, x0, x1, x2)
  replace hf : bM_isPrime_13 n k13 h x0 x1 x2 = some (h', r') := hf
  show bM_isPrime_13 n k13' (mrg h kk) x0 x1 x2 = some (mrg h' kk, r')
  unfold bM_isPrime_13 at hf ⊢
  refine ite_m hf (fun hf => ?_) (fun hf => ?_)
  · exact retZ_m hf
  refine ite_m hf (fun hf => ?_) (fun hf => ?_)
  · exact retZ_m hf
  obtain ⟨z1, hf⟩ := nzI_of hf
  refine nzI_m z1 ?_
  refine ite_m hf (fun hf => ?_) (fun hf => ?_)
  · exact mM_isPrime_39 hk13 n h (0:Int32) x0 x2 hf
  exact mM_isPrime_39 hk13 n h (1:Int32) x0 x2 hf
set_option maxRecDepth 20000 in
set_option maxHeartbeats 4000000 in
theorem mM_isPrime_10 {kk : MH} {h' : MH} {r' : Int32} (n : Nat) (h : MH) (s0 : Int32) (x0 : Int32) (hf : fM_isPrime_10 n h s0 x0 = some (h', r')) : fM_isPrime_10 n (mrg h kk) s0 x0 = some (mrg h' kk, r') := by
  unfold fM_isPrime_10 at hf ⊢
  exact mM_isPrime_13 n h x0 s0 (2:Int32) hf
set_option maxRecDepth 20000 in
set_option maxHeartbeats 4000000 in
theorem mM_isPrime {kk : MH} {h' : MH} {r' : Int32} {n : Nat} {h : MH} {i_0 : Int32} (hf : fM_isPrime n h i_0 = some (h', r')) : fM_isPrime n (mrg h kk) i_0 = some (mrg h' kk, r') := by
  unfold fM_isPrime at hf ⊢
  refine ite_m hf (fun hf => ?_) (fun hf => ?_)
  · exact mM_isPrime_10 n h (0:Int32) i_0 hf
  exact mM_isPrime_10 n h (1:Int32) i_0 hf
set_option maxRecDepth 20000 in
set_option maxHeartbeats 4000000 in
theorem mM_follow_144 {kk : MH} {h' : MH} {r' : Int32} {k84 k84' : (MH × Nat × Int32 × Int32 × Int32 × Int32 × Int32) → Option (MH × Int32)} (hk84 : ∀ (h : MH) (x0 : Nat) (x1 : Int32) (x2 : Int32) (x3 : Int32) (x4 : Int32) (x5 : Int32), k84 (h, x0, x1, x2, x3, x4, x5) = some (h', r') → k84' ((mrg h kk), x0, x1, x2, x3, x4, x5) = some (mrg h' kk, r')) (n : Nat) (h : MH) (s0 : Int32) (s1 : Int32) (s2 : Nat) (x0 : Nat) (x1 : Int32) (x2 : Int32) (x3 : Int32) (x4 : Int32) (x5 : Int32) (hf : fM_follow_144 k84 n h s0 s1 s2 x0 x1 x2 x3 x4 x5 = some (h', r')) : fM_follow_144 k84' n (mrg h kk) s0 s1 s2 x0 x1 x2 x3 x4 x5 = some (mrg h' kk, r') := by
  unfold fM_follow_144 at hf ⊢
  obtain ⟨h1, emh1, hf⟩ := bnd hf
  refine bst (wrI_m emh1) ?_
  exact hk84 h1 x0 x1 x2 x3 x4 (x5 + (1:Int32)) hf
set_option maxRecDepth 20000 in
set_option maxHeartbeats 4000000 in
theorem mM_follow_84 {kk : MH} {h' : MH} {r' : Int32} (n : Nat) (h : MH) (x0 : Nat) (x1 : Int32) (x2 : Int32) (x3 : Int32) (x4 : Int32) (x5 : Int32) (hf : fM_follow_84 n h x0 x1 x2 x3 x4 x5 = some (h', r')) : fM_follow_84 n (mrg h kk) x0 x1 x2 x3 x4 x5 = some (mrg h' kk, r') := by
  unfold fM_follow_84 at hf ⊢
  refine lp_m (ψ := fun s => (mrg s.1 kk, s.2)) (fun n k84 k84' hk84 s hf => ?_) n (h, x0, x1, x2, x3, x4, x5) hf
  obtain ⟨h, x0, x1, x2, x3, x4, x5⟩ := s
  replace hk84 : ∀ (h : MH) (x0 : Nat) (x1 : Int32) (x2 : Int32) (x3 : Int32) (x4 : Int32) (x5 : Int32), k84 (h, x0, x1, x2, x3, x4, x5) = some (h', r') → k84' ((mrg h kk), x0, x1, x2, x3, x4, x5) = some (mrg h' kk, r') := fun h x0 x1 x2 x3 x4 x5 => hk84 (h, x0, x1, x2, x3, x4, x5)
  replace hf : bM_follow_84 n k84 h x0 x1 x2 x3 x4 x5 = some (h', r') := hf
  show bM_follow_84 n k84' (mrg h kk) x0 x1 x2 x3 x4 x5 = some (mrg h' kk, r')
  unfold bM_follow_84 at hf ⊢
  refine ite_m hf (fun hf => ?_) (fun hf => ?_)
  · exact retZ_m hf
  obtain ⟨a1, ema1, hf⟩ := bnd hf
  refine bst (gfR_m ema1) ?_
  refine ite_m hf (fun hf => ?_) (fun hf => ?_)
  · obtain ⟨a2, ema2, hf⟩ := bnd hf
    refine bst (gfR_m ema2) ?_
    obtain ⟨i3, emi3, hf⟩ := bnd hf
    refine bst (rdI_m emi3) ?_
    exact mM_follow_144 hk84 n h i3 ((((6:Int32) * x1) + (6:Int32)) + x5) a1 x0 x1 x2 x3 x4 x5 hf
  obtain ⟨a4, ema4, hf⟩ := bnd hf
  refine bst (gfR_m ema4) ?_
  obtain ⟨i5, emi5, hf⟩ := bnd hf
  refine bst (rdI_m emi5) ?_
  exact mM_follow_144 hk84 n h i5 ((((6:Int32) * x1) + (6:Int32)) + x5) a1 x0 x1 x2 x3 x4 x5 hf
set_option maxRecDepth 20000 in
set_option maxHeartbeats 4000000 in
theorem mM_follow_47 {kk : MH} {h' : MH} {r' : Int32} (n : Nat) (h : MH) (x0 : Nat) (x1 : Int32) (x2 : Int32) (x3 : Int32) (x4 : Int32) (hf : fM_follow_47 n h x0 x1 x2 x3 x4 = some (h', r')) : fM_follow_47 n (mrg h kk) x0 x1 x2 x3 x4 = some (mrg h' kk, r') := by
  unfold fM_follow_47 at hf ⊢
  refine lp_m (ψ := fun s => (mrg s.1 kk, s.2)) (fun n k47 k47' hk47 s hf => ?_) n (h, x0, x1, x2, x3, x4) hf
  obtain ⟨h, x0, x1, x2, x3, x4⟩ := s
  replace hk47 : ∀ (h : MH) (x0 : Nat) (x1 : Int32) (x2 : Int32) (x3 : Int32) (x4 : Int32), k47 (h, x0, x1, x2, x3, x4) = some (h', r') → k47' ((mrg h kk), x0, x1, x2, x3, x4) = some (mrg h' kk, r') := fun h x0 x1 x2 x3 x4 => hk47 (h, x0, x1, x2, x3, x4)
  replace hf : bM_follow_47 n k47 h x0 x1 x2 x3 x4 = some (h', r') := hf
  show bM_follow_47 n k47' (mrg h kk) x0 x1 x2 x3 x4 = some (mrg h' kk, r')
  unfold bM_follow_47 at hf ⊢
  obtain ⟨a1, ema1, hf⟩ := bnd hf
  refine bst (gfR_m ema1) ?_
  obtain ⟨i2, emi2, hf⟩ := bnd hf
  refine bst (rdI_m emi2) ?_
  obtain ⟨a3, ema3, hf⟩ := bnd hf
  refine bst (gfR_m ema3) ?_
  obtain ⟨i4, emi4, hf⟩ := bnd hf
  refine bst (rdI_m emi4) ?_
  refine ite_m hf (fun hf => ?_) (fun hf => ?_)
  · exact mM_follow_84 n h x0 x1 x2 x3 x4 (0:Int32) hf
  exact hk47 h x0 x1 x2 x3 (x4 + (-1:Int32)) hf
set_option maxRecDepth 20000 in
set_option maxHeartbeats 4000000 in
theorem mM_follow_36 {kk : MH} {h' : MH} {r' : Int32} (n : Nat) (h : MH) (x0 : Nat) (x1 : Int32) (x2 : Int32) (x3 : Int32) (hf : fM_follow_36 n h x0 x1 x2 x3 = some (h', r')) : fM_follow_36 n (mrg h kk) x0 x1 x2 x3 = some (mrg h' kk, r') := by
  unfold fM_follow_36 at hf ⊢
  refine ite_m hf (fun hf => ?_) (fun hf => ?_)
  · exact mM_follow_47 n h x0 x1 x2 x3 (x3 - (1:Int32)) hf
  exact retZ_m hf
set_option maxRecDepth 20000 in
set_option maxHeartbeats 4000000 in
theorem mM_follow_11 {kk : MH} {h' : MH} {r' : Int32} (n : Nat) (h : MH) (x0 : Nat) (x1 : Int32) (x2 : Int32) (x3 : Int32) (hf : fM_follow_11 n h x0 x1 x2 x3 = some (h', r')) : fM_follow_11 n (mrg h kk) x0 x1 x2 x3 = some (mrg h' kk, r') := by
  unfold fM_follow_11 at hf ⊢
  refine lp_m (ψ := fun s => (mrg s.1 kk, s.2)) (fun n k11 k11' hk11 s hf => ?_) n (h, x0, x1, x2, x3) hf
  obtain ⟨h, x0, x1, x2, x3⟩ := s
  replace hk11 : ∀ (h : MH) (x0 : Nat) (x1 : Int32) (x2 : Int32) (x3 : Int32), k11 (h, x0, x1, x2, x3) = some (h', r') → k11' ((mrg h kk), x0, x1, x2, x3) = some (mrg h' kk, r') := fun h x0 x1 x2 x3 => hk11 (h, x0, x1, x2, x3)
  replace hf : bM_follow_11 n k11 h x0 x1 x2 x3 = some (h', r') := hf
  show bM_follow_11 n k11' (mrg h kk) x0 x1 x2 x3 = some (mrg h' kk, r')
  unfold bM_follow_11 at hf ⊢
  refine ite_m hf (fun hf => ?_) (fun hf => ?_)
  · exact mM_follow_36 n h x0 x1 x2 x3 hf
  obtain ⟨a1, ema1, hf⟩ := bnd hf
  refine bst (gfR_m ema1) ?_
  obtain ⟨i2, emi2, hf⟩ := bnd hf
  refine bst (rdI_m emi2) ?_
  refine ite_m hf (fun hf => ?_) (fun hf => ?_)
  · exact mM_follow_36 n h x0 x1 x2 x3 hf
  exact hk11 h x0 x1 x2 (x3 + (-1:Int32)) hf
set_option maxRecDepth 20000 in
set_option maxHeartbeats 4000000 in
theorem mM_follow {kk : MH} {h' : MH} {r' : Int32} {n : Nat} {h : MH} {a_0 : Nat} {i_1 : Int32} (hf : fM_follow n h a_0 i_1 = some (h', r')) : fM_follow n (mrg h kk) a_0 i_1 = some (mrg h' kk, r') := by
  unfold fM_follow at hf ⊢
  obtain ⟨a1, ema1, hf⟩ := bnd hf
  refine bst (gfR_m ema1) ?_
  obtain ⟨i2, emi2, hf⟩ := bnd hf
  refine bst (rdI_m emi2) ?_
  exact mM_follow_11 n h a_0 i_1 i2 (i2 - (1:Int32)) hf
set_option maxRecDepth 20000 in
set_option maxHeartbeats 4000000 in
theorem mM_init_242 {kk : MH} {h' : MH} {k204 k204' : (MH × Nat × Int32 × Int32) → Option MH} (hk204 : ∀ (h : MH) (x0 : Nat) (x2 : Int32) (x3 : Int32), k204 (h, x0, x2, x3) = some h' → k204' ((mrg h kk), x0, x2, x3) = some (mrg h' kk)) (n : Nat) (h : MH) (x0 : Nat) (x2 : Int32) (x3 : Int32) (x4 : Int32) (hf : fM_init_242 k204 n h x0 x2 x3 x4 = some h') : fM_init_242 k204' n (mrg h kk) x0 x2 x3 x4 = some (mrg h' kk) := by
  unfold fM_init_242 at hf ⊢
  refine lp_m (ψ := fun s => (mrg s.1 kk, s.2)) (fun n k242 k242' hk242 s hf => ?_) n (h, x0, x2, x3, x4) hf
  obtain ⟨h, x0, x2, x3, x4⟩ := s
  replace hk242 : ∀ (h : MH) (x0 : Nat) (x2 : Int32) (x3 : Int32) (x4 : Int32), k242 (h, x0, x2, x3, x4) = some h' → k242' ((mrg h kk), x0, x2, x3, x4) = some (mrg h' kk) := fun h x0 x2 x3 x4 => hk242 (h, x0, x2, x3, x4)
  replace hf : bM_init_242 k204 n k242 h x0 x2 x3 x4 = some h' := hf
  show bM_init_242 k204' n k242' (mrg h kk) x0 x2 x3 x4 = some (mrg h' kk)
  unfold bM_init_242 at hf ⊢
  refine ite_m hf (fun hf => ?_) (fun hf => ?_)
  · exact hk204 h x0 x2 (x3 + (1:Int32)) hf
  obtain ⟨a1, ema1, hf⟩ := bnd hf
  refine bst (gfR_m ema1) ?_
  obtain ⟨h2, emh2, hf⟩ := bnd hf
  refine bst (wrI_m emh2) ?_
  obtain ⟨u6, cu6, hf⟩ := bnd hf
  refine bst (chk_m (by decide) cu6) ?_
  obtain ⟨h3, i4, e5, hf⟩ := bndp hf
  refine bst2 (mM_follow e5) ?_
  exact hk242 h3 x0 (x2 + (1:Int32)) x3 i4 hf
set_option maxRecDepth 20000 in
set_option maxHeartbeats 4000000 in
theorem mM_init_213 {kk : MH} {h' : MH} {k204 k204' : (MH × Nat × Int32 × Int32) → Option MH} (hk204 : ∀ (h : MH) (x0 : Nat) (x2 : Int32) (x3 : Int32), k204 (h, x0, x2, x3) = some h' → k204' ((mrg h kk), x0, x2, x3) = some (mrg h' kk)) (n : Nat) (h : MH) (x0 : Nat) (x2 : Int32) (x3 : Int32) (x4 : Int32) (hf : fM_init_213 k204 n h x0 x2 x3 x4 = some h') : fM_init_213 k204' n (mrg h kk) x0 x2 x3 x4 = some (mrg h' kk) := by
  unfold fM_init_213 at hf ⊢
  refine lp_m (ψ := fun s => (mrg s.1 kk, s.2)) (fun n k213 k213' hk213 s hf => ?_) n (h, x0, x2, x3, x4) hf
  obtain ⟨h, x0, x2, x3, x4⟩ := s
  replace hk213 : ∀ (h : MH) (x0 : Nat) (x2 : Int32) (x3 : Int32) (x4 : Int32), k213 (h, x0, x2, x3, x4) = some h' → k213' ((mrg h kk), x0, x2, x3, x4) = some (mrg h' kk) := fun h x0 x2 x3 x4 => hk213 (h, x0, x2, x3, x4)
  replace hf : bM_init_213 k204 n k213 h x0 x2 x3 x4 = some h' := hf
  show bM_init_213 k204' n k213' (mrg h kk) x0 x2 x3 x4 = some (mrg h' kk)
  unfold bM_init_213 at hf ⊢
  refine ite_m hf (fun hf => ?_) (fun hf => ?_)
  · exact mM_init_242 hk204 n h x0 x2 x3 (1:Int32) hf
  obtain ⟨a1, ema1, hf⟩ := bnd hf
  refine bst (gfR_m ema1) ?_
  obtain ⟨h2, emh2, hf⟩ := bnd hf
  refine bst (wrI_m emh2) ?_
  exact hk213 h2 x0 x2 x3 (x4 + (1:Int32)) hf
set_option maxRecDepth 20000 in
set_option maxHeartbeats 4000000 in
theorem mM_init_204 {kk : MH} {h' : MH} (n : Nat) (h : MH) (x0 : Nat) (x2 : Int32) (x3 : Int32) (hf : fM_init_204 n h x0 x2 x3 = some h') : fM_init_204 n (mrg h kk) x0 x2 x3 = some (mrg h' kk) := by
  unfold fM_init_204 at hf ⊢
  refine lp_m (ψ := fun s => (mrg s.1 kk, s.2)) (fun n k204 k204' hk204 s hf => ?_) n (h, x0, x2, x3) hf
  obtain ⟨h, x0, x2, x3⟩ := s
  replace hk204 : ∀ (h : MH) (x0 : Nat) (x2 : Int32) (x3 : Int32), k204 (h, x0, x2, x3) = some h' → k204' ((mrg h kk), x0, x2, x3) = some (mrg h' kk) := fun h x0 x2 x3 => hk204 (h, x0, x2, x3)
  replace hf : bM_init_204 n k204 h x0 x2 x3 = some h' := hf
  show bM_init_204 n k204' (mrg h kk) x0 x2 x3 = some (mrg h' kk)
  unfold bM_init_204 at hf ⊢
  refine ite_m hf (fun hf => ?_) (fun hf => ?_)
  · cases hf
    rfl
  exact mM_init_213 hk204 n h x0 x2 x3 (0:Int32) hf
set_option maxRecDepth 20000 in
set_option maxHeartbeats 4000000 in
theorem mM_init_200 {kk : MH} {h' : MH} (n : Nat) (h : MH) (x0 : Nat) (hf : fM_init_200 n h x0 = some h') : fM_init_200 n (mrg h kk) x0 = some (mrg h' kk) := by
  unfold fM_init_200 at hf ⊢
  exact mM_init_204 n h x0 (0:Int32) (1:Int32) hf
set_option maxRecDepth 20000 in
set_option maxHeartbeats 4000000 in
theorem mM_init_197 {kk : MH} {h' : MH} (n : Nat) (h : MH) (s0 : Int32) (s1 : Nat) (x0 : Nat) (hf : fM_init_197 n h s0 s1 x0 = some h') : fM_init_197 n (mrg h kk) s0 s1 x0 = some (mrg h' kk) := by
  unfold fM_init_197 at hf ⊢
  obtain ⟨h1, emh1, hf⟩ := bnd hf
  refine bst (pf_m (by intro q; cases q) emh1) ?_
  exact mM_init_200 n h1 x0 hf
set_option maxRecDepth 20000 in
set_option maxHeartbeats 4000000 in
theorem mM_init_195 {kk : MH} {h' : MH} (n : Nat) (h : MH) (s0 : Nat) (x0 : Nat) (hf : fM_init_195 n h s0 x0 = some h') : fM_init_195 n (mrg h kk) s0 x0 = some (mrg h' kk) := by
  unfold fM_init_195 at hf ⊢
  exact mM_init_197 n h (998244353:Int32) s0 x0 hf
set_option maxRecDepth 20000 in
set_option maxHeartbeats 4000000 in
theorem mM_init_169 {kk : MH} {h' : MH} (n : Nat) (h : MH) (x0 : Nat) (x1 : Int32) (hf : fM_init_169 n h x0 x1 = some h') : fM_init_169 n (mrg h kk) x0 x1 = some (mrg h' kk) := by
  unfold fM_init_169 at hf ⊢
  obtain ⟨h1, i2, e6, hf⟩ := bndp hf
  refine bst2 (mM_in e6) ?_
  refine ite_m hf (fun hf => ?_) (fun hf => ?_)
  · exact mM_init_195 n h1 x0 x0 hf
  obtain ⟨h3, i4, e5, hf⟩ := bndp hf
  refine bst2 (mM_isPrime e5) ?_
  refine ite_m hf (fun hf => ?_) (fun hf => ?_)
  · exact mM_init_195 n h3 x0 x0 hf
  exact mM_init_197 n h3 x1 x0 x0 hf
set_option maxRecDepth 20000 in
set_option maxHeartbeats 4000000 in
theorem mM_init {kk : MH} {h' : MH} {n : Nat} {h : MH} {a_0 : Nat} {i_1 : Int32} (hf : fM_init n h a_0 i_1 = some h') : fM_init n (mrg h kk) a_0 i_1 = some (mrg h' kk) := by
  unfold fM_init at hf ⊢
  refine naI_m hf (fun h1 a2 hf => ?_)
  obtain ⟨h3, emh3, hf⟩ := bnd hf
  refine bst (pf_m (by intro q; cases q) emh3) ?_
  refine naI_m hf (fun h4 a5 hf => ?_)
  obtain ⟨h6, emh6, hf⟩ := bnd hf
  refine bst (pf_m (by intro q; cases q) emh6) ?_
  refine naI_m hf (fun h7 a8 hf => ?_)
  obtain ⟨h9, emh9, hf⟩ := bnd hf
  refine bst (pf_m (by intro q; cases q) emh9) ?_
  refine naI_m hf (fun h10 a11 hf => ?_)
  obtain ⟨h12, emh12, hf⟩ := bnd hf
  refine bst (wrI_m emh12) ?_
  obtain ⟨h13, emh13, hf⟩ := bnd hf
  refine bst (wrI_m emh13) ?_
  obtain ⟨h14, emh14, hf⟩ := bnd hf
  refine bst (wrI_m emh14) ?_
  obtain ⟨h15, emh15, hf⟩ := bnd hf
  refine bst (wrI_m emh15) ?_
  obtain ⟨h16, emh16, hf⟩ := bnd hf
  refine bst (wrI_m emh16) ?_
  obtain ⟨h17, emh17, hf⟩ := bnd hf
  refine bst (wrI_m emh17) ?_
  obtain ⟨h18, emh18, hf⟩ := bnd hf
  refine bst (wrI_m emh18) ?_
  obtain ⟨h19, emh19, hf⟩ := bnd hf
  refine bst (wrI_m emh19) ?_
  obtain ⟨h20, emh20, hf⟩ := bnd hf
  refine bst (pf_m (by intro q; cases q) emh20) ?_
  refine naI_m hf (fun h21 a22 hf => ?_)
  obtain ⟨h23, emh23, hf⟩ := bnd hf
  refine bst (pf_m (by intro q; cases q) emh23) ?_
  refine naL_m hf (fun h24 a25 hf => ?_)
  obtain ⟨h26, emh26, hf⟩ := bnd hf
  refine bst (pf_m (by intro q; cases q) emh26) ?_
  refine naI_m hf (fun h27 a28 hf => ?_)
  obtain ⟨h29, emh29, hf⟩ := bnd hf
  refine bst (pf_m (by intro q; cases q) emh29) ?_
  refine naL_m hf (fun h30 a31 hf => ?_)
  obtain ⟨h32, emh32, hf⟩ := bnd hf
  refine bst (pf_m (by intro q; cases q) emh32) ?_
  refine naL_m hf (fun h33 a34 hf => ?_)
  obtain ⟨h35, emh35, hf⟩ := bnd hf
  refine bst (pf_m (by intro q; cases q) emh35) ?_
  refine naI_m hf (fun h36 a37 hf => ?_)
  obtain ⟨h38, emh38, hf⟩ := bnd hf
  refine bst (pf_m (by intro q; cases q) emh38) ?_
  refine naL_m hf (fun h39 a40 hf => ?_)
  obtain ⟨h41, emh41, hf⟩ := bnd hf
  refine bst (pf_m (by intro q; cases q) emh41) ?_
  refine naL_m hf (fun h42 a43 hf => ?_)
  obtain ⟨h44, emh44, hf⟩ := bnd hf
  refine bst (pf_m (by intro q; cases q) emh44) ?_
  refine naL_m hf (fun h45 a46 hf => ?_)
  obtain ⟨h47, emh47, hf⟩ := bnd hf
  refine bst (pf_m (by intro q; cases q) emh47) ?_
  refine naL_m hf (fun h48 a49 hf => ?_)
  obtain ⟨h50, emh50, hf⟩ := bnd hf
  refine bst (pf_m (by intro q; cases q) emh50) ?_
  refine naL_m hf (fun h51 a52 hf => ?_)
  obtain ⟨h53, emh53, hf⟩ := bnd hf
  refine bst (pf_m (by intro q; cases q) emh53) ?_
  refine naL_m hf (fun h54 a55 hf => ?_)
  obtain ⟨h56, emh56, hf⟩ := bnd hf
  refine bst (pf_m (by intro q; cases q) emh56) ?_
  exact mM_init_169 n h56 a_0 i_1 hf
set_option maxRecDepth 20000 in
set_option maxHeartbeats 4000000 in
theorem mM_isTree {kk : MH} {h' : MH} {r' : Int32} {h : MH} {i_0 : Int32} (hf : fM_isTree h i_0 = some (h', r')) : fM_isTree (mrg h kk) i_0 = some (mrg h' kk, r') := by
  unfold fM_isTree at hf ⊢
  obtain ⟨h1, i2, e3, hf⟩ := bndp hf
  refine bst2 (mM_in e3) ?_
  exact retZ_m hf
set_option maxRecDepth 20000 in
set_option maxHeartbeats 4000000 in
theorem mM_trees_46 {kk : MH} {h' : MH} {r' : Int32} {k24 k24' : (MH × Nat × Int32 × Int32 × Int32) → Option (MH × Int32)} (hk24 : ∀ (h : MH) (x0 : Nat) (x1 : Int32) (x2 : Int32) (x3 : Int32), k24 (h, x0, x1, x2, x3) = some (h', r') → k24' ((mrg h kk), x0, x1, x2, x3) = some (mrg h' kk, r')) (n : Nat) (h : MH) (s0 : Int32) (s1 : Int32) (x0 : Nat) (x1 : Int32) (x3 : Int32) (hf : fM_trees_46 k24 n h s0 s1 x0 x1 x3 = some (h', r')) : fM_trees_46 k24' n (mrg h kk) s0 s1 x0 x1 x3 = some (mrg h' kk, r') := by
  unfold fM_trees_46 at hf ⊢
  exact hk24 h x0 x1 (s1 + s0) (x3 + (1:Int32)) hf
set_option maxRecDepth 20000 in
set_option maxHeartbeats 4000000 in
theorem mM_trees_24 {kk : MH} {h' : MH} {r' : Int32} (n : Nat) (h : MH) (x0 : Nat) (x1 : Int32) (x2 : Int32) (x3 : Int32) (hf : fM_trees_24 n h x0 x1 x2 x3 = some (h', r')) : fM_trees_24 n (mrg h kk) x0 x1 x2 x3 = some (mrg h' kk, r') := by
  unfold fM_trees_24 at hf ⊢
  refine lp_m (ψ := fun s => (mrg s.1 kk, s.2)) (fun n k24 k24' hk24 s hf => ?_) n (h, x0, x1, x2, x3) hf
  obtain ⟨h, x0, x1, x2, x3⟩ := s
  replace hk24 : ∀ (h : MH) (x0 : Nat) (x1 : Int32) (x2 : Int32) (x3 : Int32), k24 (h, x0, x1, x2, x3) = some (h', r') → k24' ((mrg h kk), x0, x1, x2, x3) = some (mrg h' kk, r') := fun h x0 x1 x2 x3 => hk24 (h, x0, x1, x2, x3)
  replace hf : bM_trees_24 n k24 h x0 x1 x2 x3 = some (h', r') := hf
  show bM_trees_24 n k24' (mrg h kk) x0 x1 x2 x3 = some (mrg h' kk, r')
  unfold bM_trees_24 at hf ⊢
  refine ite_m hf (fun hf => ?_) (fun hf => ?_)
  · cases hf
    rfl
  obtain ⟨a1, ema1, hf⟩ := bnd hf
  refine bst (gfR_m ema1) ?_
  obtain ⟨i2, emi2, hf⟩ := bnd hf
  refine bst (rdI_m emi2) ?_
  refine ite_m hf (fun hf => ?_) (fun hf => ?_)
  · exact mM_trees_46 hk24 n h (1:Int32) x2 x0 x1 x3 hf
  exact mM_trees_46 hk24 n h (0:Int32) x2 x0 x1 x3 hf
set_option maxRecDepth 20000 in
set_option maxHeartbeats 4000000 in
theorem mM_trees {kk : MH} {h' : MH} {r' : Int32} {n : Nat} {h : MH} {a_0 : Nat} {i_1 : Int32} (hf : fM_trees n h a_0 i_1 = some (h', r')) : fM_trees n (mrg h kk) a_0 i_1 = some (mrg h' kk, r') := by
  unfold fM_trees at hf ⊢
  obtain ⟨h1, emh1, hf⟩ := bnd hf
  refine bst (pf_m (by intro q; cases q) emh1) ?_
  obtain ⟨h2, i3, e4, hf⟩ := bndp hf
  refine bst2 (mM_in e4) ?_
  refine ite_m hf (fun hf => ?_) (fun hf => ?_)
  · cases hf
    rfl
  exact mM_trees_24 n h2 a_0 i_1 (0:Int32) (0:Int32) hf
set_option maxRecDepth 20000 in
set_option maxHeartbeats 4000000 in
theorem mM_endOf_4 {kk : MH} {h' : MH} {r' : Int32} (n : Nat) (h : MH) (x0 : Nat) (x1 : Int32) (x2 : Int32) (x3 : Int32) (hf : fM_endOf_4 n h x0 x1 x2 x3 = some (h', r')) : fM_endOf_4 n (mrg h kk) x0 x1 x2 x3 = some (mrg h' kk, r') := by
  unfold fM_endOf_4 at hf ⊢
  refine lp_m (ψ := fun s => (mrg s.1 kk, s.2)) (fun n k4 k4' hk4 s hf => ?_) n (h, x0, x1, x2, x3) hf
  obtain ⟨h, x0, x1, x2, x3⟩ := s
  replace hk4 : ∀ (h : MH) (x0 : Nat) (x1 : Int32) (x2 : Int32) (x3 : Int32), k4 (h, x0, x1, x2, x3) = some (h', r') → k4' ((mrg h kk), x0, x1, x2, x3) = some (mrg h' kk, r') := fun h x0 x1 x2 x3 => hk4 (h, x0, x1, x2, x3)
  replace hf : bM_endOf_4 n k4 h x0 x1 x2 x3 = some (h', r') := hf
  show bM_endOf_4 n k4' (mrg h kk) x0 x1 x2 x3 = some (mrg h' kk, r')
  unfold bM_endOf_4 at hf ⊢
  obtain ⟨a1, ema1, hf⟩ := bnd hf
  refine bst (gfR_m ema1) ?_
  obtain ⟨i2, emi2, hf⟩ := bnd hf
  refine bst (rdI_m emi2) ?_
  refine ite_m hf (fun hf => ?_) (fun hf => ?_)
  · cases hf
    rfl
  obtain ⟨a3, ema3, hf⟩ := bnd hf
  refine bst (gfR_m ema3) ?_
  obtain ⟨i4, emi4, hf⟩ := bnd hf
  refine bst (rdI_m emi4) ?_
  obtain ⟨a5, ema5, hf⟩ := bnd hf
  refine bst (gfR_m ema5) ?_
  obtain ⟨i6, emi6, hf⟩ := bnd hf
  refine bst (rdI_m emi6) ?_
  refine ite_m hf (fun hf => ?_) (fun hf => ?_)
  · cases hf
    rfl
  exact hk4 h x0 x1 x2 (x3 + (1:Int32)) hf
set_option maxRecDepth 20000 in
set_option maxHeartbeats 4000000 in
theorem mM_endOf {kk : MH} {h' : MH} {r' : Int32} {n : Nat} {h : MH} {a_0 : Nat} {i_1 : Int32} {i_2 : Int32} (hf : fM_endOf n h a_0 i_1 i_2 = some (h', r')) : fM_endOf n (mrg h kk) a_0 i_1 i_2 = some (mrg h' kk, r') := by
  unfold fM_endOf at hf ⊢
  exact mM_endOf_4 n h a_0 i_1 i_2 (i_2 + (1:Int32)) hf
set_option maxRecDepth 20000 in
set_option maxHeartbeats 4000000 in
theorem mM_symmetry_131 {kk : MH} {h' : MH} {r' : Int32} {k4 k4' : (MH × Nat × Int32 × Int32 × Int32) → Option (MH × Int32)} {k34 k34' : (MH × Nat × Int32 × Int32 × Int32 × Int32 × Int32 × Int32 × Int32) → Option (MH × Int32)} {k81 k81' : (MH × Nat × Int32 × Int32 × Int32 × Int32 × Int32 × Int32 × Int32 × Int32 × Int32 × Int32) → Option (MH × Int32)} (hk4 : ∀ (h : MH) (x0 : Nat) (x1 : Int32) (x2 : Int32) (x3 : Int32), k4 (h, x0, x1, x2, x3) = some (h', r') → k4' ((mrg h kk), x0, x1, x2, x3) = some (mrg h' kk, r')) (hk34 : ∀ (h : MH) (x0 : Nat) (x1 : Int32) (x2 : Int32) (x3 : Int32) (x4 : Int32) (x5 : Int32) (x6 : Int32) (x7 : Int32), k34 (h, x0, x1, x2, x3, x4, x5, x6, x7) = some (h', r') → k34' ((mrg h kk), x0, x1, x2, x3, x4, x5, x6, x7) = some (mrg h' kk, r')) (hk81 : ∀ (h : MH) (x0 : Nat) (x1 : Int32) (x2 : Int32) (x3 : Int32) (x4 : Int32) (x5 : Int32) (x6 : Int32) (x7 : Int32) (x8 : Int32) (x9 : Int32) (x10 : Int32), k81 (h, x0, x1, x2, x3, x4, x5, x6, x7, x8, x9, x10) = some (h', r') → k81' ((mrg h kk), x0, x1, x2, x3, x4, x5, x6, x7, x8, x9, x10) = some (mrg h' kk, r')) (n : Nat) (h : MH) (s0 : Int32) (x0 : Nat) (x1 : Int32) (x2 : Int32) (x3 : Int32) (x4 : Int32) (x5 : Int32) (x6 : Int32) (x7 : Int32) (x8 : Int32) (x10 : Int32) (hf : fM_symmetry_131 k4 k34 k81 n h s0 x0 x1 x2 x3 x4 x5 x6 x7 x8 x10 = some (h', r')) : fM_symmetry_131 k4' k34' k81' n (mrg h kk) s0 x0 x1 x2 x3 x4 x5 x6 x7 x8 x10 = some (mrg h' kk, r') := by
  unfold fM_symmetry_131 at hf ⊢
  exact hk81 h x0 x1 x2 x3 x4 x5 x6 x7 x8 s0 (x10 + (1:Int32)) hf
set_option maxRecDepth 20000 in
set_option maxHeartbeats 4000000 in
theorem mM_symmetry_152 {kk : MH} {h' : MH} {r' : Int32} {k4 k4' : (MH × Nat × Int32 × Int32 × Int32) → Option (MH × Int32)} {k34 k34' : (MH × Nat × Int32 × Int32 × Int32 × Int32 × Int32 × Int32 × Int32) → Option (MH × Int32)} (hk4 : ∀ (h : MH) (x0 : Nat) (x1 : Int32) (x2 : Int32) (x3 : Int32), k4 (h, x0, x1, x2, x3) = some (h', r') → k4' ((mrg h kk), x0, x1, x2, x3) = some (mrg h' kk, r')) (hk34 : ∀ (h : MH) (x0 : Nat) (x1 : Int32) (x2 : Int32) (x3 : Int32) (x4 : Int32) (x5 : Int32) (x6 : Int32) (x7 : Int32), k34 (h, x0, x1, x2, x3, x4, x5, x6, x7) = some (h', r') → k34' ((mrg h kk), x0, x1, x2, x3, x4, x5, x6, x7) = some (mrg h' kk, r')) (n : Nat) (h : MH) (s0 : Int32) (x0 : Nat) (x1 : Int32) (x2 : Int32) (x3 : Int32) (x4 : Int32) (x7 : Int32) (x8 : Int32) (hf : fM_symmetry_152 k4 k34 n h s0 x0 x1 x2 x3 x4 x7 x8 = some (h', r')) : fM_symmetry_152 k4' k34' n (mrg h kk) s0 x0 x1 x2 x3 x4 x7 x8 = some (mrg h' kk, r') := by
  unfold fM_symmetry_152 at hf ⊢
  exact hk34 h x0 x1 (x2 * s0) x3 x4 s0 x7 x8 hf
set_option maxRecDepth 20000 in
set_option maxHeartbeats 4000000 in
theorem mM_symmetry_139 {kk : MH} {h' : MH} {r' : Int32} {k4 k4' : (MH × Nat × Int32 × Int32 × Int32) → Option (MH × Int32)} {k34 k34' : (MH × Nat × Int32 × Int32 × Int32 × Int32 × Int32 × Int32 × Int32) → Option (MH × Int32)} (hk4 : ∀ (h : MH) (x0 : Nat) (x1 : Int32) (x2 : Int32) (x3 : Int32), k4 (h, x0, x1, x2, x3) = some (h', r') → k4' ((mrg h kk), x0, x1, x2, x3) = some (mrg h' kk, r')) (hk34 : ∀ (h : MH) (x0 : Nat) (x1 : Int32) (x2 : Int32) (x3 : Int32) (x4 : Int32) (x5 : Int32) (x6 : Int32) (x7 : Int32), k34 (h, x0, x1, x2, x3, x4, x5, x6, x7) = some (h', r') → k34' ((mrg h kk), x0, x1, x2, x3, x4, x5, x6, x7) = some (mrg h' kk, r')) (n : Nat) (h : MH) (x0 : Nat) (x1 : Int32) (x2 : Int32) (x3 : Int32) (x4 : Int32) (x5 : Int32) (x7 : Int32) (x8 : Int32) (x9 : Int32) (hf : fM_symmetry_139 k4 k34 n h x0 x1 x2 x3 x4 x5 x7 x8 x9 = some (h', r')) : fM_symmetry_139 k4' k34' n (mrg h kk) x0 x1 x2 x3 x4 x5 x7 x8 x9 = some (mrg h' kk, r') := by
  unfold fM_symmetry_139 at hf ⊢
  refine ite_m hf (fun hf => ?_) (fun hf => ?_)
  · exact mM_symmetry_152 hk4 hk34 n h (1:Int32) x0 x1 x2 x3 x4 x7 x8 hf
  exact mM_symmetry_152 hk4 hk34 n h (x5 + (1:Int32)) x0 x1 x2 x3 x4 x7 x8 hf
set_option maxRecDepth 20000 in
set_option maxHeartbeats 4000000 in
theorem mM_symmetry_81 {kk : MH} {h' : MH} {r' : Int32} {k4 k4' : (MH × Nat × Int32 × Int32 × Int32) → Option (MH × Int32)} {k34 k34' : (MH × Nat × Int32 × Int32 × Int32 × Int32 × Int32 × Int32 × Int32) → Option (MH × Int32)} (hk4 : ∀ (h : MH) (x0 : Nat) (x1 : Int32) (x2 : Int32) (x3 : Int32), k4 (h, x0, x1, x2, x3) = some (h', r') → k4' ((mrg h kk), x0, x1, x2, x3) = some (mrg h' kk, r')) (hk34 : ∀ (h : MH) (x0 : Nat) (x1 : Int32) (x2 : Int32) (x3 : Int32) (x4 : Int32) (x5 : Int32) (x6 : Int32) (x7 : Int32), k34 (h, x0, x1, x2, x3, x4, x5, x6, x7) = some (h', r') → k34' ((mrg h kk), x0, x1, x2, x3, x4, x5, x6, x7) = some (mrg h' kk, r')) (n : Nat) (h : MH) (x0 : Nat) (x1 : Int32) (x2 : Int32) (x3 : Int32) (x4 : Int32) (x5 : Int32) (x6 : Int32) (x7 : Int32) (x8 : Int32) (x9 : Int32) (x10 : Int32) (hf : fM_symmetry_81 k4 k34 n h x0 x1 x2 x3 x4 x5 x6 x7 x8 x9 x10 = some (h', r')) : fM_symmetry_81 k4' k34' n (mrg h kk) x0 x1 x2 x3 x4 x5 x6 x7 x8 x9 x10 = some (mrg h' kk, r') := by
  unfold fM_symmetry_81 at hf ⊢
  refine lp_m (ψ := fun s => (mrg s.1 kk, s.2)) (fun n k81 k81' hk81 s hf => ?_) n (h, x0, x1, x2, x3, x4, x5, x6, x7, x8, x9, x10) hf
  obtain ⟨h, x0, x1, x2, x3, x4, x5, x6, x7, x8, x9, x10⟩ := s
  replace hk81 : ∀ (h : MH) (x0 : Nat) (x1 : Int32) (x2 : Int32) (x3 : Int32) (x4 : Int32) (x5 : Int32) (x6 : Int32) (x7 : Int32) (x8 : Int32) (x9 : Int32) (x10 : Int32), k81 (h, x0, x1, x2, x3, x4, x5, x6, x7, x8, x9, x10) = some (h', r') → k81' ((mrg h kk), x0, x1, x2, x3, x4, x5, x6, x7, x8, x9, x10) = some (mrg h' kk, r') := fun h x0 x1 x2 x3 x4 x5 x6 x7 x8 x9 x10 => hk81 (h, x0, x1, x2, x3, x4, x5, x6, x7, x8, x9, x10)
  replace hf : bM_symmetry_81 k4 k34 n k81 h x0 x1 x2 x3 x4 x5 x6 x7 x8 x9 x10 = some (h', r') := hf
  show bM_symmetry_81 k4' k34' n k81' (mrg h kk) x0 x1 x2 x3 x4 x5 x6 x7 x8 x9 x10 = some (mrg h' kk, r')
  unfold bM_symmetry_81 at hf ⊢
  refine ite_m hf (fun hf => ?_) (fun hf => ?_)
  · exact mM_symmetry_139 hk4 hk34 n h x0 x1 x2 x3 x4 x5 x7 x8 x9 hf
  refine ite_m hf (fun hf => ?_) (fun hf => ?_)
  · exact mM_symmetry_139 hk4 hk34 n h x0 x1 x2 x3 x4 x5 x7 x8 x9 hf
  obtain ⟨a1, ema1, hf⟩ := bnd hf
  refine bst (gfR_m ema1) ?_
  obtain ⟨i2, emi2, hf⟩ := bnd hf
  refine bst (rdI_m emi2) ?_
  obtain ⟨a3, ema3, hf⟩ := bnd hf
  refine bst (gfR_m ema3) ?_
  obtain ⟨i4, emi4, hf⟩ := bnd hf
  refine bst (rdI_m emi4) ?_
  refine ite_m hf (fun hf => ?_) (fun hf => ?_)
  · exact mM_symmetry_131 hk4 hk34 hk81 n h (1:Int32) x0 x1 x2 x3 x4 x5 x6 x7 x8 x10 hf
  exact mM_symmetry_131 hk4 hk34 hk81 n h (0:Int32) x0 x1 x2 x3 x4 x5 x6 x7 x8 x10 hf
set_option maxRecDepth 20000 in
set_option maxHeartbeats 4000000 in
theorem mM_symmetry_75 {kk : MH} {h' : MH} {r' : Int32} {k4 k4' : (MH × Nat × Int32 × Int32 × Int32) → Option (MH × Int32)} {k34 k34' : (MH × Nat × Int32 × Int32 × Int32 × Int32 × Int32 × Int32 × Int32) → Option (MH × Int32)} (hk4 : ∀ (h : MH) (x0 : Nat) (x1 : Int32) (x2 : Int32) (x3 : Int32), k4 (h, x0, x1, x2, x3) = some (h', r') → k4' ((mrg h kk), x0, x1, x2, x3) = some (mrg h' kk, r')) (hk34 : ∀ (h : MH) (x0 : Nat) (x1 : Int32) (x2 : Int32) (x3 : Int32) (x4 : Int32) (x5 : Int32) (x6 : Int32) (x7 : Int32), k34 (h, x0, x1, x2, x3, x4, x5, x6, x7) = some (h', r') → k34' ((mrg h kk), x0, x1, x2, x3, x4, x5, x6, x7) = some (mrg h' kk, r')) (n : Nat) (h : MH) (s0 : Int32) (x0 : Nat) (x1 : Int32) (x2 : Int32) (x3 : Int32) (x4 : Int32) (x5 : Int32) (x6 : Int32) (x7 : Int32) (x8 : Int32) (hf : fM_symmetry_75 k4 k34 n h s0 x0 x1 x2 x3 x4 x5 x6 x7 x8 = some (h', r')) : fM_symmetry_75 k4' k34' n (mrg h kk) s0 x0 x1 x2 x3 x4 x5 x6 x7 x8 = some (mrg h' kk, r') := by
  unfold fM_symmetry_75 at hf ⊢
  exact mM_symmetry_81 hk4 hk34 n h x0 x1 x2 x3 x4 x5 x6 x7 x8 s0 x7 hf
set_option maxRecDepth 20000 in
set_option maxHeartbeats 4000000 in
theorem mM_symmetry_74 {kk : MH} {h' : MH} {r' : Int32} {k4 k4' : (MH × Nat × Int32 × Int32 × Int32) → Option (MH × Int32)} {k34 k34' : (MH × Nat × Int32 × Int32 × Int32 × Int32 × Int32 × Int32 × Int32) → Option (MH × Int32)} (hk4 : ∀ (h : MH) (x0 : Nat) (x1 : Int32) (x2 : Int32) (x3 : Int32), k4 (h, x0, x1, x2, x3) = some (h', r') → k4' ((mrg h kk), x0, x1, x2, x3) = some (mrg h' kk, r')) (hk34 : ∀ (h : MH) (x0 : Nat) (x1 : Int32) (x2 : Int32) (x3 : Int32) (x4 : Int32) (x5 : Int32) (x6 : Int32) (x7 : Int32), k34 (h, x0, x1, x2, x3, x4, x5, x6, x7) = some (h', r') → k34' ((mrg h kk), x0, x1, x2, x3, x4, x5, x6, x7) = some (mrg h' kk, r')) (n : Nat) (h : MH) (x0 : Nat) (x1 : Int32) (x2 : Int32) (x3 : Int32) (x4 : Int32) (x5 : Int32) (x6 : Int32) (x7 : Int32) (x8 : Int32) (hf : fM_symmetry_74 k4 k34 n h x0 x1 x2 x3 x4 x5 x6 x7 x8 = some (h', r')) : fM_symmetry_74 k4' k34' n (mrg h kk) x0 x1 x2 x3 x4 x5 x6 x7 x8 = some (mrg h' kk, r') := by
  unfold fM_symmetry_74 at hf ⊢
  exact mM_symmetry_75 hk4 hk34 n h (0:Int32) x0 x1 x2 x3 x4 x5 x6 x7 x8 hf
set_option maxRecDepth 20000 in
set_option maxHeartbeats 4000000 in
theorem mM_symmetry_34 {kk : MH} {h' : MH} {r' : Int32} {k4 k4' : (MH × Nat × Int32 × Int32 × Int32) → Option (MH × Int32)} (hk4 : ∀ (h : MH) (x0 : Nat) (x1 : Int32) (x2 : Int32) (x3 : Int32), k4 (h, x0, x1, x2, x3) = some (h', r') → k4' ((mrg h kk), x0, x1, x2, x3) = some (mrg h' kk, r')) (n : Nat) (h : MH) (x0 : Nat) (x1 : Int32) (x2 : Int32) (x3 : Int32) (x4 : Int32) (x5 : Int32) (x6 : Int32) (x7 : Int32) (hf : fM_symmetry_34 k4 n h x0 x1 x2 x3 x4 x5 x6 x7 = some (h', r')) : fM_symmetry_34 k4' n (mrg h kk) x0 x1 x2 x3 x4 x5 x6 x7 = some (mrg h' kk, r') := by
  unfold fM_symmetry_34 at hf ⊢
  refine lp_m (ψ := fun s => (mrg s.1 kk, s.2)) (fun n k34 k34' hk34 s hf => ?_) n (h, x0, x1, x2, x3, x4, x5, x6, x7) hf
  obtain ⟨h, x0, x1, x2, x3, x4, x5, x6, x7⟩ := s
  replace hk34 : ∀ (h : MH) (x0 : Nat) (x1 : Int32) (x2 : Int32) (x3 : Int32) (x4 : Int32) (x5 : Int32) (x6 : Int32) (x7 : Int32), k34 (h, x0, x1, x2, x3, x4, x5, x6, x7) = some (h', r') → k34' ((mrg h kk), x0, x1, x2, x3, x4, x5, x6, x7) = some (mrg h' kk, r') := fun h x0 x1 x2 x3 x4 x5 x6 x7 => hk34 (h, x0, x1, x2, x3, x4, x5, x6, x7)
  replace hf : bM_symmetry_34 k4 n k34 h x0 x1 x2 x3 x4 x5 x6 x7 = some (h', r') := hf
  show bM_symmetry_34 k4' n k34' (mrg h kk) x0 x1 x2 x3 x4 x5 x6 x7 = some (mrg h' kk, r')
  unfold bM_symmetry_34 at hf ⊢
  refine ite_m hf (fun hf => ?_) (fun hf => ?_)
  · exact hk4 h x0 x1 x2 (x3 + (1:Int32)) hf
  obtain ⟨u4, cu4, hf⟩ := bnd hf
  refine bst (chk_m (by decide) cu4) ?_
  obtain ⟨h1, i2, e3, hf⟩ := bndp hf
  refine bst2 (mM_endOf e3) ?_
  refine ite_m hf (fun hf => ?_) (fun hf => ?_)
  · exact mM_symmetry_74 hk4 hk34 n h1 x0 x1 x2 x3 x4 x5 x6 x7 i2 hf
  refine ite_m hf (fun hf => ?_) (fun hf => ?_)
  · exact mM_symmetry_75 hk4 hk34 n h1 (1:Int32) x0 x1 x2 x3 x4 x5 x6 x7 i2 hf
  exact mM_symmetry_74 hk4 hk34 n h1 x0 x1 x2 x3 x4 x5 x6 x7 i2 hf
set_option maxRecDepth 20000 in
set_option maxHeartbeats 4000000 in
theorem mM_symmetry_4 {kk : MH} {h' : MH} {r' : Int32} (n : Nat) (h : MH) (x0 : Nat) (x1 : Int32) (x2 : Int32) (x3 : Int32) (hf : fM_symmetry_4 n h x0 x1 x2 x3 = some (h', r')) : fM_symmetry_4 n (mrg h kk) x0 x1 x2 x3 = some (mrg h' kk, r') := by
  unfold fM_symmetry_4 at hf ⊢
  refine lp_m (ψ := fun s => (mrg s.1 kk, s.2)) (fun n k4 k4' hk4 s hf => ?_) n (h, x0, x1, x2, x3) hf
  obtain ⟨h, x0, x1, x2, x3⟩ := s
  replace hk4 : ∀ (h : MH) (x0 : Nat) (x1 : Int32) (x2 : Int32) (x3 : Int32), k4 (h, x0, x1, x2, x3) = some (h', r') → k4' ((mrg h kk), x0, x1, x2, x3) = some (mrg h' kk, r') := fun h x0 x1 x2 x3 => hk4 (h, x0, x1, x2, x3)
  replace hf : bM_symmetry_4 n k4 h x0 x1 x2 x3 = some (h', r') := hf
  show bM_symmetry_4 n k4' (mrg h kk) x0 x1 x2 x3 = some (mrg h' kk, r')
  unfold bM_symmetry_4 at hf ⊢
  obtain ⟨a1, ema1, hf⟩ := bnd hf
  refine bst (gfR_m ema1) ?_
  obtain ⟨i2, emi2, hf⟩ := bnd hf
  refine bst (rdI_m emi2) ?_
  refine ite_m hf (fun hf => ?_) (fun hf => ?_)
  · cases hf
    rfl
  obtain ⟨u6, cu6, hf⟩ := bnd hf
  refine bst (chk_m (by decide) cu6) ?_
  obtain ⟨h3, i4, e5, hf⟩ := bndp hf
  refine bst2 (mM_endOf e5) ?_
  exact mM_symmetry_34 hk4 n h3 x0 x1 x2 x3 i4 (0:Int32) (-1000000:Int32) (x3 + (1:Int32)) hf
set_option maxRecDepth 20000 in
set_option maxHeartbeats 4000000 in
theorem mM_symmetry {kk : MH} {h' : MH} {r' : Int32} {n : Nat} {h : MH} {a_0 : Nat} {i_1 : Int32} (hf : fM_symmetry n h a_0 i_1 = some (h', r')) : fM_symmetry n (mrg h kk) a_0 i_1 = some (mrg h' kk, r') := by
  unfold fM_symmetry at hf ⊢
  exact mM_symmetry_4 n h a_0 i_1 (1:Int32) (0:Int32) hf
set_option maxRecDepth 20000 in
set_option maxHeartbeats 4000000 in
theorem mM_density_4 {kk : MH} {h' : MH} {r' : Int32} (n : Nat) (h : MH) (x0 : Nat) (x1 : Int32) (x2 : Int32) (x3 : Int32) (hf : fM_density_4 n h x0 x1 x2 x3 = some (h', r')) : fM_density_4 n (mrg h kk) x0 x1 x2 x3 = some (mrg h' kk, r') := by
  unfold fM_density_4 at hf ⊢
  refine lp_m (ψ := fun s => (mrg s.1 kk, s.2)) (fun n k4 k4' hk4 s hf => ?_) n (h, x0, x1, x2, x3) hf
  obtain ⟨h, x0, x1, x2, x3⟩ := s
  replace hk4 : ∀ (h : MH) (x0 : Nat) (x1 : Int32) (x2 : Int32) (x3 : Int32), k4 (h, x0, x1, x2, x3) = some (h', r') → k4' ((mrg h kk), x0, x1, x2, x3) = some (mrg h' kk, r') := fun h x0 x1 x2 x3 => hk4 (h, x0, x1, x2, x3)
  replace hf : bM_density_4 n k4 h x0 x1 x2 x3 = some (h', r') := hf
  show bM_density_4 n k4' (mrg h kk) x0 x1 x2 x3 = some (mrg h' kk, r')
  unfold bM_density_4 at hf ⊢
  obtain ⟨a1, ema1, hf⟩ := bnd hf
  refine bst (gfR_m ema1) ?_
  obtain ⟨i2, emi2, hf⟩ := bnd hf
  refine bst (rdI_m emi2) ?_
  refine ite_m hf (fun hf => ?_) (fun hf => ?_)
  · cases hf
    rfl
  obtain ⟨u6, cu6, hf⟩ := bnd hf
  refine bst (chk_m (by decide) cu6) ?_
  obtain ⟨h3, i4, e5, hf⟩ := bndp hf
  refine bst2 (mM_endOf e5) ?_
  exact hk4 h3 x0 x1 (x2 * (i4 - x3)) (x3 + (1:Int32)) hf
set_option maxRecDepth 20000 in
set_option maxHeartbeats 4000000 in
theorem mM_density {kk : MH} {h' : MH} {r' : Int32} {n : Nat} {h : MH} {a_0 : Nat} {i_1 : Int32} (hf : fM_density n h a_0 i_1 = some (h', r')) : fM_density n (mrg h kk) a_0 i_1 = some (mrg h' kk, r') := by
  unfold fM_density at hf ⊢
  exact mM_density_4 n h a_0 i_1 (1:Int32) (0:Int32) hf
set_option maxRecDepth 20000 in
set_option maxHeartbeats 4000000 in
theorem mM_tree_65 {kk : MH} {h' : MH} {r' : Int32} {k32 k32' : (MH × Nat × Int32 × Int32 × Int32 × Int32) → Option (MH × Int32)} (hk32 : ∀ (h : MH) (x0 : Nat) (x1 : Int32) (x2 : Int32) (x3 : Int32) (x4 : Int32), k32 (h, x0, x1, x2, x3, x4) = some (h', r') → k32' ((mrg h kk), x0, x1, x2, x3, x4) = some (mrg h' kk, r')) (n : Nat) (h : MH) (s0 : Int32) (s1 : Int32) (x0 : Nat) (x1 : Int32) (x2 : Int32) (x4 : Int32) (hf : fM_tree_65 k32 n h s0 s1 x0 x1 x2 x4 = some (h', r')) : fM_tree_65 k32' n (mrg h kk) s0 s1 x0 x1 x2 x4 = some (mrg h' kk, r') := by
  unfold fM_tree_65 at hf ⊢
  exact hk32 h x0 x1 x2 (s1 + s0) (x4 + (1:Int32)) hf
set_option maxRecDepth 20000 in
set_option maxHeartbeats 4000000 in
theorem mM_tree_32 {kk : MH} {h' : MH} {r' : Int32} (n : Nat) (h : MH) (x0 : Nat) (x1 : Int32) (x2 : Int32) (x3 : Int32) (x4 : Int32) (hf : fM_tree_32 n h x0 x1 x2 x3 x4 = some (h', r')) : fM_tree_32 n (mrg h kk) x0 x1 x2 x3 x4 = some (mrg h' kk, r') := by
  unfold fM_tree_32 at hf ⊢
  refine lp_m (ψ := fun s => (mrg s.1 kk, s.2)) (fun n k32 k32' hk32 s hf => ?_) n (h, x0, x1, x2, x3, x4) hf
  obtain ⟨h, x0, x1, x2, x3, x4⟩ := s
  replace hk32 : ∀ (h : MH) (x0 : Nat) (x1 : Int32) (x2 : Int32) (x3 : Int32) (x4 : Int32), k32 (h, x0, x1, x2, x3, x4) = some (h', r') → k32' ((mrg h kk), x0, x1, x2, x3, x4) = some (mrg h' kk, r') := fun h x0 x1 x2 x3 x4 => hk32 (h, x0, x1, x2, x3, x4)
  replace hf : bM_tree_32 n k32 h x0 x1 x2 x3 x4 = some (h', r') := hf
  show bM_tree_32 n k32' (mrg h kk) x0 x1 x2 x3 x4 = some (mrg h' kk, r')
  unfold bM_tree_32 at hf ⊢
  obtain ⟨a1, ema1, hf⟩ := bnd hf
  refine bst (gfR_m ema1) ?_
  obtain ⟨i2, emi2, hf⟩ := bnd hf
  refine bst (rdI_m emi2) ?_
  refine ite_m hf (fun hf => ?_) (fun hf => ?_)
  · refine ite_m hf (fun hf => ?_) (fun hf => ?_)
    · obtain ⟨a11, ema11, hf⟩ := bnd hf
      refine bst (gfR_m ema11) ?_
      obtain ⟨i12, emi12, hf⟩ := bnd hf
      refine bst (rdI_m emi12) ?_
      cases hf
      rfl
    refine ite_m hf (fun hf => ?_) (fun hf => ?_)
    · obtain ⟨u10, cu10, hf⟩ := bnd hf
      refine bst (chk_m (by decide) cu10) ?_
      obtain ⟨h7, i8, e9, hf⟩ := bndp hf
      refine bst2 (mM_symmetry e9) ?_
      cases hf
      rfl
    refine ite_m hf (fun hf => ?_) (fun hf => ?_)
    · obtain ⟨u6, cu6, hf⟩ := bnd hf
      refine bst (chk_m (by decide) cu6) ?_
      obtain ⟨h3, i4, e5, hf⟩ := bndp hf
      refine bst2 (mM_density e5) ?_
      cases hf
      rfl
    cases hf
    rfl
  obtain ⟨a13, ema13, hf⟩ := bnd hf
  refine bst (gfR_m ema13) ?_
  obtain ⟨i14, emi14, hf⟩ := bnd hf
  refine bst (rdI_m emi14) ?_
  refine ite_m hf (fun hf => ?_) (fun hf => ?_)
  · exact mM_tree_65 hk32 n h (1:Int32) x3 x0 x1 x2 x4 hf
  exact mM_tree_65 hk32 n h (0:Int32) x3 x0 x1 x2 x4 hf
set_option maxRecDepth 20000 in
set_option maxHeartbeats 4000000 in
theorem mM_tree {kk : MH} {h' : MH} {r' : Int32} {n : Nat} {h : MH} {a_0 : Nat} {i_1 : Int32} {i_2 : Int32} (hf : fM_tree n h a_0 i_1 i_2 = some (h', r')) : fM_tree n (mrg h kk) a_0 i_1 i_2 = some (mrg h' kk, r') := by
  unfold fM_tree at hf ⊢
  obtain ⟨h1, emh1, hf⟩ := bnd hf
  refine bst (pf_m (by intro q; cases q) emh1) ?_
  obtain ⟨h2, i3, e7, hf⟩ := bndp hf
  refine bst2 (mM_isTree e7) ?_
  refine ite_m hf (fun hf => ?_) (fun hf => ?_)
  · cases hf
    rfl
  obtain ⟨h4, i5, e6, hf⟩ := bndp hf
  refine bst2 (mM_in e6) ?_
  refine ite_m hf (fun hf => ?_) (fun hf => ?_)
  · cases hf
    rfl
  exact mM_tree_32 n h4 a_0 i_1 i_2 (0:Int32) (0:Int32) hf
set_option maxRecDepth 20000 in
set_option maxHeartbeats 4000000 in
theorem mM_isGreater_44 {kk : MH} {h' : MH} {r' : Int32} {k3 k3' : (MH × Nat × Int32 × Int32 × Int32 × Int32 × Int32) → Option (MH × Int32)} (hk3 : ∀ (h : MH) (x0 : Nat) (x1 : Int32) (x2 : Int32) (x3 : Int32) (x4 : Int32) (x5 : Int32), k3 (h, x0, x1, x2, x3, x4, x5) = some (h', r') → k3' ((mrg h kk), x0, x1, x2, x3, x4, x5) = some (mrg h' kk, r')) (n : Nat) (h : MH) (s0 : Int32) (x0 : Nat) (x1 : Int32) (x2 : Int32) (x3 : Int32) (x4 : Int32) (x5 : Int32) (hf : fM_isGreater_44 k3 n h s0 x0 x1 x2 x3 x4 x5 = some (h', r')) : fM_isGreater_44 k3' n (mrg h kk) s0 x0 x1 x2 x3 x4 x5 = some (mrg h' kk, r') := by
  unfold fM_isGreater_44 at hf ⊢
  obtain ⟨a1, ema1, hf⟩ := bnd hf
  refine bst (gfR_m ema1) ?_
  obtain ⟨i2, emi2, hf⟩ := bnd hf
  refine bst (rdI_m emi2) ?_
  refine ite_m hf (fun hf => ?_) (fun hf => ?_)
  · exact hk3 h x0 x1 x2 x3 x4 (x5 + (1:Int32)) hf
  obtain ⟨a3, ema3, hf⟩ := bnd hf
  refine bst (gfR_m ema3) ?_
  obtain ⟨i4, emi4, hf⟩ := bnd hf
  refine bst (rdI_m emi4) ?_
  refine ite_m hf (fun hf => ?_) (fun hf => ?_)
  · exact retZ_m hf
  exact retZ_m hf
set_option maxRecDepth 20000 in
set_option maxHeartbeats 4000000 in
theorem mM_isGreater_3 {kk : MH} {h' : MH} {r' : Int32} (n : Nat) (h : MH) (x0 : Nat) (x1 : Int32) (x2 : Int32) (x3 : Int32) (x4 : Int32) (x5 : Int32) (hf : fM_isGreater_3 n h x0 x1 x2 x3 x4 x5 = some (h', r')) : fM_isGreater_3 n (mrg h kk) x0 x1 x2 x3 x4 x5 = some (mrg h' kk, r') := by
  unfold fM_isGreater_3 at hf ⊢
  refine lp_m (ψ := fun s => (mrg s.1 kk, s.2)) (fun n k3 k3' hk3 s hf => ?_) n (h, x0, x1, x2, x3, x4, x5) hf
  obtain ⟨h, x0, x1, x2, x3, x4, x5⟩ := s
  replace hk3 : ∀ (h : MH) (x0 : Nat) (x1 : Int32) (x2 : Int32) (x3 : Int32) (x4 : Int32) (x5 : Int32), k3 (h, x0, x1, x2, x3, x4, x5) = some (h', r') → k3' ((mrg h kk), x0, x1, x2, x3, x4, x5) = some (mrg h' kk, r') := fun h x0 x1 x2 x3 x4 x5 => hk3 (h, x0, x1, x2, x3, x4, x5)
  replace hf : bM_isGreater_3 n k3 h x0 x1 x2 x3 x4 x5 = some (h', r') := hf
  show bM_isGreater_3 n k3' (mrg h kk) x0 x1 x2 x3 x4 x5 = some (mrg h' kk, r')
  unfold bM_isGreater_3 at hf ⊢
  refine ite_m hf (fun hf => ?_) (fun hf => ?_)
  · exact retZ_m hf
  obtain ⟨a1, ema1, hf⟩ := bnd hf
  refine bst (gfR_m ema1) ?_
  obtain ⟨i2, emi2, hf⟩ := bnd hf
  refine bst (rdI_m emi2) ?_
  refine ite_m hf (fun hf => ?_) (fun hf => ?_)
  · exact mM_isGreater_44 hk3 n h (0:Int32) x0 x1 x2 x3 x4 x5 hf
  obtain ⟨a3, ema3, hf⟩ := bnd hf
  refine bst (gfR_m ema3) ?_
  obtain ⟨i4, emi4, hf⟩ := bnd hf
  refine bst (rdI_m emi4) ?_
  exact mM_isGreater_44 hk3 n h (i4 + (1:Int32)) x0 x1 x2 x3 x4 x5 hf
set_option maxRecDepth 20000 in
set_option maxHeartbeats 4000000 in
theorem mM_isGreater {kk : MH} {h' : MH} {r' : Int32} {n : Nat} {h : MH} {a_0 : Nat} {i_1 : Int32} {i_2 : Int32} {i_3 : Int32} {i_4 : Int32} (hf : fM_isGreater n h a_0 i_1 i_2 i_3 i_4 = some (h', r')) : fM_isGreater n (mrg h kk) a_0 i_1 i_2 i_3 i_4 = some (mrg h' kk, r') := by
  unfold fM_isGreater at hf ⊢
  exact mM_isGreater_3 n h a_0 i_1 i_2 i_3 i_4 i_2 hf
set_option maxRecDepth 20000 in
set_option maxHeartbeats 4000000 in
theorem mM_hang_100 {kk : MH} {h' : MH} {r' : Int32} {k51 k51' : (MH × Nat × Int32 × Int32 × Int32 × Int32 × Int32) → Option (MH × Int32)} (hk51 : ∀ (h : MH) (x0 : Nat) (x1 : Int32) (x2 : Int32) (x3 : Int32) (x4 : Int32) (x5 : Int32), k51 (h, x0, x1, x2, x3, x4, x5) = some (h', r') → k51' ((mrg h kk), x0, x1, x2, x3, x4, x5) = some (mrg h' kk, r')) (n : Nat) (h : MH) (s0 : Int32) (x0 : Nat) (x1 : Int32) (x2 : Int32) (x3 : Int32) (x5 : Int32) (hf : fM_hang_100 k51 n h s0 x0 x1 x2 x3 x5 = some (h', r')) : fM_hang_100 k51' n (mrg h kk) s0 x0 x1 x2 x3 x5 = some (mrg h' kk, r') := by
  unfold fM_hang_100 at hf ⊢
  exact hk51 h x0 x1 x2 x3 s0 x5 hf
set_option maxRecDepth 20000 in
set_option maxHeartbeats 4000000 in
theorem mM_hang_195 {kk : MH} {h' : MH} {r' : Int32} {k108 k108' : (MH × Nat × Int32 × Int32 × Int32 × Int32 × Int32) → Option (MH × Int32)} (hk108 : ∀ (h : MH) (x0 : Nat) (x1 : Int32) (x2 : Int32) (x3 : Int32) (x4 : Int32) (x6 : Int32), k108 (h, x0, x1, x2, x3, x4, x6) = some (h', r') → k108' ((mrg h kk), x0, x1, x2, x3, x4, x6) = some (mrg h' kk, r')) (n : Nat) (h : MH) (s0 : Int32) (s1 : Int32) (s2 : Nat) (x0 : Nat) (x1 : Int32) (x2 : Int32) (x3 : Int32) (x4 : Int32) (x6 : Int32) (hf : fM_hang_195 k108 n h s0 s1 s2 x0 x1 x2 x3 x4 x6 = some (h', r')) : fM_hang_195 k108' n (mrg h kk) s0 s1 s2 x0 x1 x2 x3 x4 x6 = some (mrg h' kk, r') := by
  unfold fM_hang_195 at hf ⊢
  obtain ⟨h1, emh1, hf⟩ := bnd hf
  refine bst (wrI_m emh1) ?_
  exact hk108 h1 x0 x1 x2 x3 x4 (x6 + (1:Int32)) hf
set_option maxRecDepth 20000 in
set_option maxHeartbeats 4000000 in
theorem mM_hang_276 {kk : MH} {h' : MH} {r' : Int32} {k209 k209' : (MH × Nat × Int32 × Int32 × Int32) → Option (MH × Int32)} {k237 k237' : (MH × Nat × Int32 × Int32 × Int32 × Int32 × Int32) → Option (MH × Int32)} (hk209 : ∀ (h : MH) (x0 : Nat) (x3 : Int32) (x6 : Int32) (x7 : Int32), k209 (h, x0, x3, x6, x7) = some (h', r') → k209' ((mrg h kk), x0, x3, x6, x7) = some (mrg h' kk, r')) (hk237 : ∀ (h : MH) (x0 : Nat) (x3 : Int32) (x6 : Int32) (x7 : Int32) (x8 : Int32) (x9 : Int32), k237 (h, x0, x3, x6, x7, x8, x9) = some (h', r') → k237' ((mrg h kk), x0, x3, x6, x7, x8, x9) = some (mrg h' kk, r')) (n : Nat) (h : MH) (s0 : Int32) (x0 : Nat) (x3 : Int32) (x6 : Int32) (x7 : Int32) (x9 : Int32) (hf : fM_hang_276 k209 k237 n h s0 x0 x3 x6 x7 x9 = some (h', r')) : fM_hang_276 k209' k237' n (mrg h kk) s0 x0 x3 x6 x7 x9 = some (mrg h' kk, r') := by
  unfold fM_hang_276 at hf ⊢
  exact hk237 h x0 x3 x6 x7 s0 (x9 + (1:Int32)) hf
set_option maxRecDepth 20000 in
set_option maxHeartbeats 4000000 in
theorem mM_hang_275 {kk : MH} {h' : MH} {r' : Int32} {k209 k209' : (MH × Nat × Int32 × Int32 × Int32) → Option (MH × Int32)} {k237 k237' : (MH × Nat × Int32 × Int32 × Int32 × Int32 × Int32) → Option (MH × Int32)} (hk209 : ∀ (h : MH) (x0 : Nat) (x3 : Int32) (x6 : Int32) (x7 : Int32), k209 (h, x0, x3, x6, x7) = some (h', r') → k209' ((mrg h kk), x0, x3, x6, x7) = some (mrg h' kk, r')) (hk237 : ∀ (h : MH) (x0 : Nat) (x3 : Int32) (x6 : Int32) (x7 : Int32) (x8 : Int32) (x9 : Int32), k237 (h, x0, x3, x6, x7, x8, x9) = some (h', r') → k237' ((mrg h kk), x0, x3, x6, x7, x8, x9) = some (mrg h' kk, r')) (n : Nat) (h : MH) (x0 : Nat) (x3 : Int32) (x6 : Int32) (x7 : Int32) (x9 : Int32) (hf : fM_hang_275 k209 k237 n h x0 x3 x6 x7 x9 = some (h', r')) : fM_hang_275 k209' k237' n (mrg h kk) x0 x3 x6 x7 x9 = some (mrg h' kk, r') := by
  unfold fM_hang_275 at hf ⊢
  exact mM_hang_276 hk209 hk237 n h (0:Int32) x0 x3 x6 x7 x9 hf
set_option maxRecDepth 20000 in
set_option maxHeartbeats 4000000 in
theorem mM_hang_296 {kk : MH} {h' : MH} {r' : Int32} {k209 k209' : (MH × Nat × Int32 × Int32 × Int32) → Option (MH × Int32)} (hk209 : ∀ (h : MH) (x0 : Nat) (x3 : Int32) (x6 : Int32) (x7 : Int32), k209 (h, x0, x3, x6, x7) = some (h', r') → k209' ((mrg h kk), x0, x3, x6, x7) = some (mrg h' kk, r')) (n : Nat) (h : MH) (s0 : Int32) (x0 : Nat) (x3 : Int32) (x7 : Int32) (hf : fM_hang_296 k209 n h s0 x0 x3 x7 = some (h', r')) : fM_hang_296 k209' n (mrg h kk) s0 x0 x3 x7 = some (mrg h' kk, r') := by
  unfold fM_hang_296 at hf ⊢
  exact hk209 h x0 x3 s0 (x7 + (1:Int32)) hf
set_option maxRecDepth 20000 in
set_option maxHeartbeats 4000000 in
theorem mM_hang_237 {kk : MH} {h' : MH} {r' : Int32} {k209 k209' : (MH × Nat × Int32 × Int32 × Int32) → Option (MH × Int32)} (hk209 : ∀ (h : MH) (x0 : Nat) (x3 : Int32) (x6 : Int32) (x7 : Int32), k209 (h, x0, x3, x6, x7) = some (h', r') → k209' ((mrg h kk), x0, x3, x6, x7) = some (mrg h' kk, r')) (n : Nat) (h : MH) (x0 : Nat) (x3 : Int32) (x6 : Int32) (x7 : Int32) (x8 : Int32) (x9 : Int32) (hf : fM_hang_237 k209 n h x0 x3 x6 x7 x8 x9 = some (h', r')) : fM_hang_237 k209' n (mrg h kk) x0 x3 x6 x7 x8 x9 = some (mrg h' kk, r') := by
  unfold fM_hang_237 at hf ⊢
  refine lp_m (ψ := fun s => (mrg s.1 kk, s.2)) (fun n k237 k237' hk237 s hf => ?_) n (h, x0, x3, x6, x7, x8, x9) hf
  obtain ⟨h, x0, x3, x6, x7, x8, x9⟩ := s
  replace hk237 : ∀ (h : MH) (x0 : Nat) (x3 : Int32) (x6 : Int32) (x7 : Int32) (x8 : Int32) (x9 : Int32), k237 (h, x0, x3, x6, x7, x8, x9) = some (h', r') → k237' ((mrg h kk), x0, x3, x6, x7, x8, x9) = some (mrg h' kk, r') := fun h x0 x3 x6 x7 x8 x9 => hk237 (h, x0, x3, x6, x7, x8, x9)
  replace hf : bM_hang_237 k209 n k237 h x0 x3 x6 x7 x8 x9 = some (h', r') := hf
  show bM_hang_237 k209' n k237' (mrg h kk) x0 x3 x6 x7 x8 x9 = some (mrg h' kk, r')
  unfold bM_hang_237 at hf ⊢
  refine ite_m hf (fun hf => ?_) (fun hf => ?_)
  · refine ite_m hf (fun hf => ?_) (fun hf => ?_)
    · exact mM_hang_296 hk209 n h x6 x0 x3 x7 hf
    exact mM_hang_296 hk209 n h x7 x0 x3 x7 hf
  refine ite_m hf (fun hf => ?_) (fun hf => ?_)
  · exact mM_hang_275 hk209 hk237 n h x0 x3 x6 x7 x9 hf
  obtain ⟨a1, ema1, hf⟩ := bnd hf
  refine bst (gfR_m ema1) ?_
  obtain ⟨i2, emi2, hf⟩ := bnd hf
  refine bst (rdI_m emi2) ?_
  obtain ⟨a3, ema3, hf⟩ := bnd hf
  refine bst (gfR_m ema3) ?_
  obtain ⟨i4, emi4, hf⟩ := bnd hf
  refine bst (rdI_m emi4) ?_
  refine ite_m hf (fun hf => ?_) (fun hf => ?_)
  · exact mM_hang_276 hk209 hk237 n h (1:Int32) x0 x3 x6 x7 x9 hf
  exact mM_hang_275 hk209 hk237 n h x0 x3 x6 x7 x9 hf
set_option maxRecDepth 20000 in
set_option maxHeartbeats 4000000 in
theorem mM_hang_232 {kk : MH} {h' : MH} {r' : Int32} {k209 k209' : (MH × Nat × Int32 × Int32 × Int32) → Option (MH × Int32)} (hk209 : ∀ (h : MH) (x0 : Nat) (x3 : Int32) (x6 : Int32) (x7 : Int32), k209 (h, x0, x3, x6, x7) = some (h', r') → k209' ((mrg h kk), x0, x3, x6, x7) = some (mrg h' kk, r')) (n : Nat) (h : MH) (s0 : Int32) (x0 : Nat) (x3 : Int32) (x6 : Int32) (x7 : Int32) (hf : fM_hang_232 k209 n h s0 x0 x3 x6 x7 = some (h', r')) : fM_hang_232 k209' n (mrg h kk) s0 x0 x3 x6 x7 = some (mrg h' kk, r') := by
  unfold fM_hang_232 at hf ⊢
  exact mM_hang_237 hk209 n h x0 x3 x6 x7 s0 (0:Int32) hf
set_option maxRecDepth 20000 in
set_option maxHeartbeats 4000000 in
theorem mM_hang_209 {kk : MH} {h' : MH} {r' : Int32} (n : Nat) (h : MH) (x0 : Nat) (x3 : Int32) (x6 : Int32) (x7 : Int32) (hf : fM_hang_209 n h x0 x3 x6 x7 = some (h', r')) : fM_hang_209 n (mrg h kk) x0 x3 x6 x7 = some (mrg h' kk, r') := by
  unfold fM_hang_209 at hf ⊢
  refine lp_m (ψ := fun s => (mrg s.1 kk, s.2)) (fun n k209 k209' hk209 s hf => ?_) n (h, x0, x3, x6, x7) hf
  obtain ⟨h, x0, x3, x6, x7⟩ := s
  replace hk209 : ∀ (h : MH) (x0 : Nat) (x3 : Int32) (x6 : Int32) (x7 : Int32), k209 (h, x0, x3, x6, x7) = some (h', r') → k209' ((mrg h kk), x0, x3, x6, x7) = some (mrg h' kk, r') := fun h x0 x3 x6 x7 => hk209 (h, x0, x3, x6, x7)
  replace hf : bM_hang_209 n k209 h x0 x3 x6 x7 = some (h', r') := hf
  show bM_hang_209 n k209' (mrg h kk) x0 x3 x6 x7 = some (mrg h' kk, r')
  unfold bM_hang_209 at hf ⊢
  refine ite_m hf (fun hf => ?_) (fun hf => ?_)
  · cases hf
    rfl
  obtain ⟨a1, ema1, hf⟩ := bnd hf
  refine bst (gfR_m ema1) ?_
  obtain ⟨i2, emi2, hf⟩ := bnd hf
  refine bst (rdI_m emi2) ?_
  refine ite_m hf (fun hf => ?_) (fun hf => ?_)
  · exact mM_hang_232 hk209 n h (1:Int32) x0 x3 x6 x7 hf
  exact mM_hang_232 hk209 n h (0:Int32) x0 x3 x6 x7 hf
set_option maxRecDepth 20000 in
set_option maxHeartbeats 4000000 in
theorem mM_hang_108 {kk : MH} {h' : MH} {r' : Int32} (n : Nat) (h : MH) (x0 : Nat) (x1 : Int32) (x2 : Int32) (x3 : Int32) (x4 : Int32) (x6 : Int32) (hf : fM_hang_108 n h x0 x1 x2 x3 x4 x6 = some (h', r')) : fM_hang_108 n (mrg h kk) x0 x1 x2 x3 x4 x6 = some (mrg h' kk, r') := by
  unfold fM_hang_108 at hf ⊢
  refine lp_m (ψ := fun s => (mrg s.1 kk, s.2)) (fun n k108 k108' hk108 s hf => ?_) n (h, x0, x1, x2, x3, x4, x6) hf
  obtain ⟨h, x0, x1, x2, x3, x4, x6⟩ := s
  replace hk108 : ∀ (h : MH) (x0 : Nat) (x1 : Int32) (x2 : Int32) (x3 : Int32) (x4 : Int32) (x6 : Int32), k108 (h, x0, x1, x2, x3, x4, x6) = some (h', r') → k108' ((mrg h kk), x0, x1, x2, x3, x4, x6) = some (mrg h' kk, r') := fun h x0 x1 x2 x3 x4 x6 => hk108 (h, x0, x1, x2, x3, x4, x6)
  replace hf : bM_hang_108 n k108 h x0 x1 x2 x3 x4 x6 = some (h', r') := hf
  show bM_hang_108 n k108' (mrg h kk) x0 x1 x2 x3 x4 x6 = some (mrg h' kk, r')
  unfold bM_hang_108 at hf ⊢
  refine ite_m hf (fun hf => ?_) (fun hf => ?_)
  · exact mM_hang_209 n h x0 x3 (-1000000:Int32) (0:Int32) hf
  obtain ⟨a1, ema1, hf⟩ := bnd hf
  refine bst (gfR_m ema1) ?_
  refine ite_m hf (fun hf => ?_) (fun hf => ?_)
  · obtain ⟨a2, ema2, hf⟩ := bnd hf
    refine bst (gfR_m ema2) ?_
    obtain ⟨i3, emi3, hf⟩ := bnd hf
    refine bst (rdI_m emi3) ?_
    refine ite_m hf (fun hf => ?_) (fun hf => ?_)
    · obtain ⟨a4, ema4, hf⟩ := bnd hf
      refine bst (gfR_m ema4) ?_
      obtain ⟨a5, ema5, hf⟩ := bnd hf
      refine bst (gfR_m ema5) ?_
      obtain ⟨i6, emi6, hf⟩ := bnd hf
      refine bst (rdI_m emi6) ?_
      obtain ⟨i7, emi7, hf⟩ := bnd hf
      refine bst (rdI_m emi7) ?_
      exact mM_hang_195 hk108 n h i7 x6 a1 x0 x1 x2 x3 x4 x6 hf
    obtain ⟨a8, ema8, hf⟩ := bnd hf
    refine bst (gfR_m ema8) ?_
    obtain ⟨i9, emi9, hf⟩ := bnd hf
    refine bst (rdI_m emi9) ?_
    exact mM_hang_195 hk108 n h (i9 + (1:Int32)) x6 a1 x0 x1 x2 x3 x4 x6 hf
  obtain ⟨a10, ema10, hf⟩ := bnd hf
  refine bst (gfR_m ema10) ?_
  obtain ⟨i11, emi11, hf⟩ := bnd hf
  refine bst (rdI_m emi11) ?_
  exact mM_hang_195 hk108 n h i11 x6 a1 x0 x1 x2 x3 x4 x6 hf
set_option maxRecDepth 20000 in
set_option maxHeartbeats 4000000 in
theorem mM_hang_105 {kk : MH} {h' : MH} {r' : Int32} (n : Nat) (h : MH) (x0 : Nat) (x1 : Int32) (x2 : Int32) (x3 : Int32) (x4 : Int32) (hf : fM_hang_105 n h x0 x1 x2 x3 x4 = some (h', r')) : fM_hang_105 n (mrg h kk) x0 x1 x2 x3 x4 = some (mrg h' kk, r') := by
  unfold fM_hang_105 at hf ⊢
  exact mM_hang_108 n h x0 x1 x2 x3 x4 (0:Int32) hf
set_option maxRecDepth 20000 in
set_option maxHeartbeats 4000000 in
theorem mM_hang_51 {kk : MH} {h' : MH} {r' : Int32} (n : Nat) (h : MH) (x0 : Nat) (x1 : Int32) (x2 : Int32) (x3 : Int32) (x4 : Int32) (x5 : Int32) (hf : fM_hang_51 n h x0 x1 x2 x3 x4 x5 = some (h', r')) : fM_hang_51 n (mrg h kk) x0 x1 x2 x3 x4 x5 = some (mrg h' kk, r') := by
  unfold fM_hang_51 at hf ⊢
  refine lp_m (ψ := fun s => (mrg s.1 kk, s.2)) (fun n k51 k51' hk51 s hf => ?_) n (h, x0, x1, x2, x3, x4, x5) hf
  obtain ⟨h, x0, x1, x2, x3, x4, x5⟩ := s
  replace hk51 : ∀ (h : MH) (x0 : Nat) (x1 : Int32) (x2 : Int32) (x3 : Int32) (x4 : Int32) (x5 : Int32), k51 (h, x0, x1, x2, x3, x4, x5) = some (h', r') → k51' ((mrg h kk), x0, x1, x2, x3, x4, x5) = some (mrg h' kk, r') := fun h x0 x1 x2 x3 x4 x5 => hk51 (h, x0, x1, x2, x3, x4, x5)
  replace hf : bM_hang_51 n k51 h x0 x1 x2 x3 x4 x5 = some (h', r') := hf
  show bM_hang_51 n k51' (mrg h kk) x0 x1 x2 x3 x4 x5 = some (mrg h' kk, r')
  unfold bM_hang_51 at hf ⊢
  obtain ⟨a1, ema1, hf⟩ := bnd hf
  refine bst (gfR_m ema1) ?_
  obtain ⟨i2, emi2, hf⟩ := bnd hf
  refine bst (rdI_m emi2) ?_
  refine ite_m hf (fun hf => ?_) (fun hf => ?_)
  · exact mM_hang_105 n h x0 x1 x2 x3 x4 hf
  refine ite_m hf (fun hf => ?_) (fun hf => ?_)
  · exact mM_hang_105 n h x0 x1 x2 x3 x4 hf
  obtain ⟨u10, cu10, hf⟩ := bnd hf
  refine bst (chk_m (by decide) cu10) ?_
  obtain ⟨h3, i4, e9, hf⟩ := bndp hf
  refine bst2 (mM_endOf e9) ?_
  obtain ⟨u8, cu8, hf⟩ := bnd hf
  refine bst (chk_m (by decide) cu8) ?_
  obtain ⟨h5, i6, e7, hf⟩ := bndp hf
  refine bst2 (mM_isGreater e7) ?_
  refine ite_m hf (fun hf => ?_) (fun hf => ?_)
  · exact mM_hang_100 hk51 n h5 x4 x0 x1 x2 x3 i6 hf
  exact mM_hang_100 hk51 n h5 i4 x0 x1 x2 x3 i6 hf
set_option maxRecDepth 20000 in
set_option maxHeartbeats 4000000 in
theorem mM_hang {kk : MH} {h' : MH} {r' : Int32} {n : Nat} {h : MH} {a_0 : Nat} {i_1 : Int32} {i_2 : Int32} (hf : fM_hang n h a_0 i_1 i_2 = some (h', r')) : fM_hang n (mrg h kk) a_0 i_1 i_2 = some (mrg h' kk, r') := by
  unfold fM_hang at hf ⊢
  obtain ⟨h1, emh1, hf⟩ := bnd hf
  refine bst (pf_m (by intro q; cases q) emh1) ?_
  obtain ⟨h2, i3, e11, hf⟩ := bndp hf
  refine bst2 (mM_isTree e11) ?_
  refine ite_m hf (fun hf => ?_) (fun hf => ?_)
  · cases hf
    rfl
  obtain ⟨h4, i5, e10, hf⟩ := bndp hf
  refine bst2 (mM_isTree e10) ?_
  refine ite_m hf (fun hf => ?_) (fun hf => ?_)
  · cases hf
    rfl
  obtain ⟨a6, ema6, hf⟩ := bnd hf
  refine bst (gfR_m ema6) ?_
  obtain ⟨i7, emi7, hf⟩ := bnd hf
  refine bst (rdI_m emi7) ?_
  obtain ⟨a8, ema8, hf⟩ := bnd hf
  refine bst (gfR_m ema8) ?_
  obtain ⟨i9, emi9, hf⟩ := bnd hf
  refine bst (rdI_m emi9) ?_
  refine ite_m hf (fun hf => ?_) (fun hf => ?_)
  · exact mM_hang_51 n h4 a_0 i_1 i_2 (i7 + i9) (1:Int32) (1:Int32) hf
  cases hf
  rfl

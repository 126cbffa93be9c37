def bL_law_28 (X : List Int32) (n : Nat) (k28 : (MH × Nat × Nat × Int32) → Option MH) (h : MH) (x1 x2 : Nat) (x3 : Int32) : Option MH := (if ((Int32.ofNat X.length) - (6:Int32)) < x3 then (some h) else ((rdS X x3).bind fun i1 => (if (i1 &&& (31:Int32)) = (0:Int32) then ((rdS X (x3 + (1:Int32))).bind fun i2 => ((rdS X (x3 + (2:Int32))).bind fun i3 => ((rdS X (x3 + (3:Int32))).bind fun i4 => ((chk h x1 11).bind fun _ => (bnd2 (fX_sheet n h x1 i2 i3 i4) fun h5 i6 => ((rdS X (x3 + (1:Int32))).bind fun i7 => ((rdS X (x3 + (2:Int32))).bind fun i8 => ((rdS X (x3 + (3:Int32))).bind fun i9 => ((chk h5 x2 12).bind fun _ => (bnd2 (fM_sheet n h5 x2 i7 i8 i9) fun h10 i11 => (if i6 = i11 then (k28 (h10, x1, x2, (x3 + (6:Int32)))) else (none : Option MH)))))))))))) else (if (i1 &&& (31:Int32)) = (1:Int32) then ((rdS X (x3 + (1:Int32))).bind fun i16 => ((rdS X (x3 + (2:Int32))).bind fun i17 => ((rdS X (x3 + (3:Int32))).bind fun i18 => ((rdS X (x3 + (4:Int32))).bind fun i19 => ((chk h x1 11).bind fun _ => (bnd2 (fX_set n h x1 i16 i17 ((i18.toInt64 <<< ((32:Int32).toInt64 &&& 63)) ||| (i19.toInt64 &&& (4294967295:Int64)))) fun h20 j21 => ((rdS X (x3 + (1:Int32))).bind fun i22 => ((rdS X (x3 + (2:Int32))).bind fun i23 => ((rdS X (x3 + (3:Int32))).bind fun i24 => ((rdS X (x3 + (4:Int32))).bind fun i25 => ((chk h20 x2 12).bind fun _ => (bnd2 (fM_set n h20 x2 i22 i23 ((i24.toInt64 <<< ((32:Int32).toInt64 &&& 63)) ||| (i25.toInt64 &&& (4294967295:Int64)))) fun h26 j27 => (if j21 = j27 then (k28 (h26, x1, x2, (x3 + (6:Int32)))) else (none : Option MH)))))))))))))) else (if (i1 &&& (31:Int32)) = (2:Int32) then ((rdS X (x3 + (1:Int32))).bind fun i32 => ((rdS X (x3 + (2:Int32))).bind fun i33 => ((rdS X (x3 + (3:Int32))).bind fun i34 => ((rdS X (x3 + (4:Int32))).bind fun i35 => ((rdS X (x3 + (5:Int32))).bind fun i36 => ((chk h x1 11).bind fun _ => (bnd2 (fX_copy n h x1 i32 i33 i34 i35 i36) fun h37 i38 => ((rdS X (x3 + (1:Int32))).bind fun i39 => ((rdS X (x3 + (2:Int32))).bind fun i40 => ((rdS X (x3 + (3:Int32))).bind fun i41 => ((rdS X (x3 + (4:Int32))).bind fun i42 => ((rdS X (x3 + (5:Int32))).bind fun i43 => ((chk h37 x2 12).bind fun _ => (bnd2 (fM_copy n h37 x2 i39 i40 i41 i42 i43) fun h44 i45 => (if i38 = i45 then (k28 (h44, x1, x2, (x3 + (6:Int32)))) else (none : Option MH)))))))))))))))) else (if (i1 &&& (31:Int32)) = (3:Int32) then ((rdS X (x3 + (1:Int32))).bind fun i50 => ((chk h x1 11).bind fun _ => (bnd2 (fX_drop n h x1 i50) fun h51 i52 => ((rdS X (x3 + (1:Int32))).bind fun i53 => ((chk h51 x2 12).bind fun _ => (bnd2 (fM_drop h51 x2 i53) fun h54 i55 => (if i52 = i55 then (k28 (h54, x1, x2, (x3 + (6:Int32)))) else (none : Option MH)))))))) else (if (i1 &&& (31:Int32)) = (4:Int32) then ((rdS X (x3 + (1:Int32))).bind fun i60 => ((chk h x1 11).bind fun _ => (bnd2 (fX_trees n h x1 i60) fun h61 i62 => ((rdS X (x3 + (1:Int32))).bind fun i63 => ((chk h61 x2 12).bind fun _ => (bnd2 (fM_trees n h61 x2 i63) fun h64 i65 => (if i62 = i65 then (k28 (h64, x1, x2, (x3 + (6:Int32)))) else (none : Option MH)))))))) else (if (i1 &&& (31:Int32)) = (5:Int32) then ((rdS X (x3 + (1:Int32))).bind fun i70 => ((rdS X (x3 + (2:Int32))).bind fun i71 => ((chk h x1 11).bind fun _ => (bnd2 (fX_tree n h x1 i70 i71) fun h72 i73 => ((rdS X (x3 + (1:Int32))).bind fun i74 => ((rdS X (x3 + (2:Int32))).bind fun i75 => ((chk h72 x2 12).bind fun _ => (bnd2 (fM_tree n h72 x2 i74 i75) fun h76 i77 => (if i73 = i77 then (k28 (h76, x1, x2, (x3 + (6:Int32)))) else (none : Option MH)))))))))) else (if (i1 &&& (31:Int32)) = (6:Int32) then ((rdS X (x3 + (1:Int32))).bind fun i82 => ((rdS X (x3 + (2:Int32))).bind fun i83 => ((chk h x1 11).bind fun _ => (bnd2 (fX_level n h x1 i82 i83) fun h84 i85 => ((rdS X (x3 + (1:Int32))).bind fun i86 => ((rdS X (x3 + (2:Int32))).bind fun i87 => ((chk h84 x2 12).bind fun _ => (bnd2 (fM_level h84 x2 i86 i87) fun h88 i89 => (if i85 = i89 then (k28 (h88, x1, x2, (x3 + (6:Int32)))) else (none : Option MH)))))))))) else (if (i1 &&& (31:Int32)) = (7:Int32) then ((rdS X (x3 + (1:Int32))).bind fun i94 => ((rdS X (x3 + (2:Int32))).bind fun i95 => ((chk h x1 11).bind fun _ => (bnd2 (fX_hang n h x1 i94 i95) fun h96 i97 => ((rdS X (x3 + (1:Int32))).bind fun i98 => ((rdS X (x3 + (2:Int32))).bind fun i99 => ((chk h96 x2 12).bind fun _ => (bnd2 (fM_hang n h96 x2 i98 i99) fun h100 i101 => (if i97 = i101 then (k28 (h100, x1, x2, (x3 + (6:Int32)))) else (none : Option MH)))))))))) else (if (i1 &&& (31:Int32)) = (8:Int32) then ((rdS X (x3 + (1:Int32))).bind fun i106 => ((rdS X (x3 + (2:Int32))).bind fun i107 => ((rdS X (x3 + (3:Int32))).bind fun i108 => ((rdS X (x3 + (4:Int32))).bind fun i109 => ((chk h x1 11).bind fun _ => (bnd2 (fX_table n h x1 i106 i107 i108 i109) fun h110 i111 => ((rdS X (x3 + (1:Int32))).bind fun i112 => ((rdS X (x3 + (2:Int32))).bind fun i113 => ((rdS X (x3 + (3:Int32))).bind fun i114 => ((rdS X (x3 + (4:Int32))).bind fun i115 => ((chk h110 x2 12).bind fun _ => (bnd2 (fM_table n h110 x2 i112 i113 i114 i115) fun h116 i117 => (if i111 = i117 then (k28 (h116, x1, x2, (x3 + (6:Int32)))) else (none : Option MH)))))))))))))) else (if (i1 &&& (31:Int32)) = (9:Int32) then ((rdS X (x3 + (1:Int32))).bind fun i122 => ((rdS X (x3 + (2:Int32))).bind fun i123 => ((rdS X (x3 + (3:Int32))).bind fun i124 => ((chk h x1 11).bind fun _ => (bnd2 (fX_behind n h x1 i122 i123 i124) fun h125 i126 => ((rdS X (x3 + (1:Int32))).bind fun i127 => ((rdS X (x3 + (2:Int32))).bind fun i128 => ((rdS X (x3 + (3:Int32))).bind fun i129 => ((chk h125 x2 12).bind fun _ => (bnd2 (fM_behind n h125 x2 i127 i128 i129) fun h130 i131 => (if i126 = i131 then (k28 (h130, x1, x2, (x3 + (6:Int32)))) else (none : Option MH)))))))))))) else (if (i1 &&& (31:Int32)) = (10:Int32) then ((rdS X (x3 + (1:Int32))).bind fun i136 => ((rdS X (x3 + (2:Int32))).bind fun i137 => ((rdS X (x3 + (3:Int32))).bind fun i138 => ((chk h x1 11).bind fun _ => (bnd2 (fX_turn n h x1 i136 i137 i138) fun h139 i140 => ((rdS X (x3 + (1:Int32))).bind fun i141 => ((rdS X (x3 + (2:Int32))).bind fun i142 => ((rdS X (x3 + (3:Int32))).bind fun i143 => ((chk h139 x2 12).bind fun _ => (bnd2 (fM_turn n h139 x2 i141 i142 i143) fun h144 i145 => (if i140 = i145 then (k28 (h144, x1, x2, (x3 + (6:Int32)))) else (none : Option MH)))))))))))) else (if (i1 &&& (31:Int32)) = (11:Int32) then ((rdS X (x3 + (1:Int32))).bind fun i150 => ((rdS X (x3 + (2:Int32))).bind fun i151 => ((rdS X (x3 + (3:Int32))).bind fun i152 => ((chk h x1 11).bind fun _ => (bnd2 (fX_scale n h x1 i150 i151 i152) fun h153 i154 => ((rdS X (x3 + (1:Int32))).bind fun i155 => ((rdS X (x3 + (2:Int32))).bind fun i156 => ((rdS X (x3 + (3:Int32))).bind fun i157 => ((chk h153 x2 12).bind fun _ => (bnd2 (fM_scale n h153 x2 i155 i156 i157) fun h158 i159 => (if i154 = i159 then (k28 (h158, x1, x2, (x3 + (6:Int32)))) else (none : Option MH)))))))))))) else (if (i1 &&& (31:Int32)) = (12:Int32) then ((rdS X (x3 + (1:Int32))).bind fun i164 => ((chk h x1 11).bind fun _ => (bnd2 (fX_clear n h x1 i164) fun h165 i166 => ((rdS X (x3 + (1:Int32))).bind fun i167 => ((chk h165 x2 12).bind fun _ => (bnd2 (fM_clear n h165 x2 i167) fun h168 i169 => (if i166 = i169 then (k28 (h168, x1, x2, (x3 + (6:Int32)))) else (none : Option MH)))))))) else (if (i1 &&& (31:Int32)) = (13:Int32) then ((rdS X (x3 + (1:Int32))).bind fun i174 => ((rdS X (x3 + (2:Int32))).bind fun i175 => ((rdS X (x3 + (3:Int32))).bind fun i176 => ((chk h x1 11).bind fun _ => (bnd2 (fX_number n h x1 i174 i175 i176) fun h177 i178 => ((rdS X (x3 + (1:Int32))).bind fun i179 => ((rdS X (x3 + (2:Int32))).bind fun i180 => ((rdS X (x3 + (3:Int32))).bind fun i181 => ((chk h177 x2 12).bind fun _ => (bnd2 (fM_number n h177 x2 i179 i180 i181) fun h182 i183 => (if i178 = i183 then (k28 (h182, x1, x2, (x3 + (6:Int32)))) else (none : Option MH)))))))))))) else (if (i1 &&& (31:Int32)) = (14:Int32) then ((rdS X (x3 + (1:Int32))).bind fun i188 => ((chk h x1 11).bind fun _ => (bnd2 (fX_kind n h x1 i188) fun h189 i190 => ((rdS X (x3 + (1:Int32))).bind fun i191 => ((chk h189 x2 12).bind fun _ => (bnd2 (fM_kind n h189 x2 i191) fun h192 i193 => (if i190 = i193 then (k28 (h192, x1, x2, (x3 + (6:Int32)))) else (none : Option MH)))))))) else (if (i1 &&& (31:Int32)) = (15:Int32) then ((rdS X (x3 + (1:Int32))).bind fun i198 => ((rdS X (x3 + (2:Int32))).bind fun i199 => ((chk h x1 11).bind fun _ => (bnd2 (fX_is n h x1 i198 i199) fun h200 i201 => ((rdS X (x3 + (1:Int32))).bind fun i202 => ((rdS X (x3 + (2:Int32))).bind fun i203 => ((chk h200 x2 12).bind fun _ => (bnd2 (fM_is n h200 x2 i202 i203) fun h204 i205 => (if i201 = i205 then (k28 (h204, x1, x2, (x3 + (6:Int32)))) else (none : Option MH)))))))))) else (if (i1 &&& (31:Int32)) = (16:Int32) then ((rdS X (x3 + (1:Int32))).bind fun i210 => ((rdS X (x3 + (2:Int32))).bind fun i211 => ((chk h x1 11).bind fun _ => (bnd2 (fX_as n h x1 i210 i211) fun h212 i213 => ((rdS X (x3 + (1:Int32))).bind fun i214 => ((rdS X (x3 + (2:Int32))).bind fun i215 => ((chk h212 x2 12).bind fun _ => (bnd2 (fM_as n h212 x2 i214 i215) fun h216 i217 => (if i213 = i217 then (k28 (h216, x1, x2, (x3 + (6:Int32)))) else (none : Option MH)))))))))) else (if (i1 &&& (31:Int32)) = (17:Int32) then ((rdS X (x3 + (1:Int32))).bind fun i222 => ((rdS X (x3 + (2:Int32))).bind fun i223 => ((chk h x1 11).bind fun _ => (bnd2 (fX_ask n h x1 i222 i223) fun h224 i225 => ((rdS X (x3 + (1:Int32))).bind fun i226 => ((rdS X (x3 + (2:Int32))).bind fun i227 => ((chk h224 x2 12).bind fun _ => (bnd2 (fM_ask n h224 x2 i226 i227) fun h228 i229 => (if i225 = i229 then (k28 (h228, x1, x2, (x3 + (6:Int32)))) else (none : Option MH)))))))))) else (if (i1 &&& (31:Int32)) = (18:Int32) then ((rdS X (x3 + (1:Int32))).bind fun i234 => ((chk h x1 11).bind fun _ => (bnd2 (fX_trace n h x1 i234) fun h235 i236 => ((rdS X (x3 + (1:Int32))).bind fun i237 => ((chk h235 x2 12).bind fun _ => (bnd2 (fM_trace h235 x2 i237) fun h238 i239 => (if i236 = i239 then (k28 (h238, x1, x2, (x3 + (6:Int32)))) else (none : Option MH)))))))) else (if (i1 &&& (31:Int32)) = (19:Int32) then ((rdS X (x3 + (1:Int32))).bind fun i244 => ((rdS X (x3 + (2:Int32))).bind fun i245 => ((chk h x1 11).bind fun _ => (bnd2 (fX_weight n h x1 i244 i245) fun h246 i247 => ((rdS X (x3 + (1:Int32))).bind fun i248 => ((rdS X (x3 + (2:Int32))).bind fun i249 => ((chk h246 x2 12).bind fun _ => (bnd2 (fM_weight n h246 x2 i248 i249) fun h250 i251 => (if i247 = i251 then (k28 (h250, x1, x2, (x3 + (6:Int32)))) else (none : Option MH)))))))))) else (if (i1 &&& (31:Int32)) = (20:Int32) then ((rdS X (x3 + (1:Int32))).bind fun i256 => ((rdS X (x3 + (2:Int32))).bind fun i257 => ((chk h x1 11).bind fun _ => (bnd2 (fX_order n h x1 i256 i257) fun h258 i259 => ((rdS X (x3 + (1:Int32))).bind fun i260 => ((rdS X (x3 + (2:Int32))).bind fun i261 => ((chk h258 x2 12).bind fun _ => (bnd2 (fM_order n h258 x2 i260 i261) fun h262 i263 => (if i259 = i263 then (k28 (h262, x1, x2, (x3 + (6:Int32)))) else (none : Option MH)))))))))) else (if (i1 &&& (31:Int32)) = (21:Int32) then ((rdS X (x3 + (1:Int32))).bind fun i268 => ((rdS X (x3 + (2:Int32))).bind fun i269 => ((rdS X (x3 + (3:Int32))).bind fun i270 => ((chk h x1 11).bind fun _ => (bnd2 (fX_share n h x1 i268 i269 i270) fun h271 i272 => ((rdS X (x3 + (1:Int32))).bind fun i273 => ((rdS X (x3 + (2:Int32))).bind fun i274 => ((rdS X (x3 + (3:Int32))).bind fun i275 => ((chk h271 x2 12).bind fun _ => (bnd2 (fM_share n h271 x2 i273 i274 i275) fun h276 i277 => (if i272 = i277 then (k28 (h276, x1, x2, (x3 + (6:Int32)))) else (none : Option MH)))))))))))) else (if (i1 &&& (31:Int32)) = (22:Int32) then ((rdS X (x3 + (1:Int32))).bind fun i282 => ((rdS X (x3 + (2:Int32))).bind fun i283 => ((rdS X (x3 + (3:Int32))).bind fun i284 => ((rdS X (x3 + (4:Int32))).bind fun i285 => ((chk h x1 11).bind fun _ => (bnd2 (fX_ride n h x1 i282 i283 i284 i285) fun h286 i287 => ((rdS X (x3 + (1:Int32))).bind fun i288 => ((rdS X (x3 + (2:Int32))).bind fun i289 => ((rdS X (x3 + (3:Int32))).bind fun i290 => ((rdS X (x3 + (4:Int32))).bind fun i291 => ((chk h286 x2 12).bind fun _ => (bnd2 (fM_ride n h286 x2 i288 i289 i290 i291) fun h292 i293 => (if i287 = i293 then (k28 (h292, x1, x2, (x3 + (6:Int32)))) else (none : Option MH)))))))))))))) else (if (i1 &&& (31:Int32)) = (23:Int32) then ((rdS X (x3 + (1:Int32))).bind fun i298 => ((rdS X (x3 + (2:Int32))).bind fun i299 => ((rdS X (x3 + (3:Int32))).bind fun i300 => ((chk h x1 11).bind fun _ => (bnd2 (fX_alike n h x1 i298 i299 i300) fun h301 i302 => ((rdS X (x3 + (1:Int32))).bind fun i303 => ((rdS X (x3 + (2:Int32))).bind fun i304 => ((rdS X (x3 + (3:Int32))).bind fun i305 => ((chk h301 x2 12).bind fun _ => (bnd2 (fM_alike n h301 x2 i303 i304 i305) fun h306 i307 => (if i302 = i307 then (k28 (h306, x1, x2, (x3 + (6:Int32)))) else (none : Option MH)))))))))))) else (if (i1 &&& (31:Int32)) = (24:Int32) then ((rdS X (x3 + (1:Int32))).bind fun i312 => ((chk h x1 11).bind fun _ => (bnd2 (fX_count n h x1 i312) fun h313 i314 => ((rdS X (x3 + (1:Int32))).bind fun i315 => ((chk h313 x2 12).bind fun _ => (bnd2 (fM_count n h313 x2 i315) fun h316 i317 => (if i314 = i317 then (k28 (h316, x1, x2, (x3 + (6:Int32)))) else (none : Option MH)))))))) else (if (i1 &&& (31:Int32)) = (25:Int32) then ((chk h x1 11).bind fun _ => (bnd2 (fX_status h x1) fun h322 i323 => ((chk h322 x2 12).bind fun _ => (bnd2 (fM_status h322 x2) fun h324 i325 => (if i323 = i325 then (k28 (h324, x1, x2, (x3 + (6:Int32)))) else (none : Option MH)))))) else (k28 (h, x1, x2, (x3 + (6:Int32))))))))))))))))))))))))))))))))
set_option maxRecDepth 20000 in
set_option maxHeartbeats 8000000 in
theorem tL_law_28 {g : Gh} {o : MH} {X : List Int32} (hX : gX g = X) {ce sl : Nat} (hce : ce + 4 ≤ 600000) (hsl : sl + 115 ≤ 7302250) {k28 : (MH × Nat × Nat × Int32) → Option MH} (hk28 : ∀ (h : MH) (x1 x2 : Nat) (x3 : Int32), k28 (h, x1, x2, x3) = some o → V g x code 4 ret room_1 (ZL g) (ce + 4) (sl + 115) h 28 [some (.ref 0), some (.ref x1), some (.ref x2), some (.int x3)] []) (n : Nat) (h : MH) (x1 x2 : Nat) (x3 : Int32) (hf : bL_law_28 X n k28 h x1 x2 x3 = some o) : V g x code 4 ret room_1 (ZL g) ce sl h 28 [some (.ref 0), some (.ref x1), some (.ref x2), some (.int x3)] [] := by
  unfold bL_law_28 at hf
  refine v_iload_n (i := 3) (pc := 28) dL_law_28 rfl rfl ?_
  refine v_aload_n (i := 0) (pc := 29) dL_law_29 rfl rfl ?_
  refine v_slen (pc := 30) hX dL_law_30 ?_
  refine v_bipush (pc := 31) (6:Int32) dL_law_31 rfl ?_
  refine v_isub (pc := 33) dL_law_33 ?_
  refine v_icmp_gt (pc := 34) (tgt := 1125) dL_law_34 rfl hf (fun hf => ?_) (fun hf => ?_)
  · refine v_iconst (pc := 1125) (1:Int32) dL_law_1125 rfl ?_
    exact v_lawret (pc := 1126) dL_law_1126 (by show ce ≤ 600000; omega) (by show sl ≤ 7302250; omega)
  refine v_aload_n (i := 0) (pc := 37) dL_law_37 rfl rfl ?_
  refine v_iload_n (i := 3) (pc := 38) dL_law_38 rfl rfl ?_
  refine v_sldB (pc := 39) hX dL_law_39 hf (fun i1 hf => ?_)
  refine v_bipush (pc := 40) (31:Int32) dL_law_40 rfl ?_
  refine v_iand (pc := 42) dL_law_42 ?_
  by_cases e330 : (i1 &&& (31:Int32)) = (0:Int32)
  · replace hf := if_t hf e330
    refine v_tswI (pc := 43) (tgt := 160) (off := 117) dL_law_43 (by rw [e330]; decide) (by rw [e330]; decide) (by rw [e330]; decide) rfl ?_
    refine v_aload_n (i := 1) (pc := 160) dL_law_160 rfl rfl ?_
    refine v_aload_n (i := 0) (pc := 161) dL_law_161 rfl rfl ?_
    refine v_iload_n (i := 3) (pc := 162) dL_law_162 rfl rfl ?_
    refine v_iconst (pc := 163) (1:Int32) dL_law_163 rfl ?_
    refine v_iadd (pc := 164) dL_law_164 ?_
    refine v_sldB (pc := 165) hX dL_law_165 hf (fun i2 hf => ?_)
    refine v_aload_n (i := 0) (pc := 166) dL_law_166 rfl rfl ?_
    refine v_iload_n (i := 3) (pc := 167) dL_law_167 rfl rfl ?_
    refine v_iconst (pc := 168) (2:Int32) dL_law_168 rfl ?_
    refine v_iadd (pc := 169) dL_law_169 ?_
    refine v_sldB (pc := 170) hX dL_law_170 hf (fun i3 hf => ?_)
    refine v_aload_n (i := 0) (pc := 171) dL_law_171 rfl rfl ?_
    refine v_iload_n (i := 3) (pc := 172) dL_law_172 rfl rfl ?_
    refine v_iconst (pc := 173) (3:Int32) dL_law_173 rfl ?_
    refine v_iadd (pc := 174) dL_law_174 ?_
    refine v_sldB (pc := 175) hX dL_law_175 hf (fun i4 hf => ?_)
    obtain ⟨u15, cu15, hf⟩ := bnd hf
    obtain ⟨h5, i6, e14, hf⟩ := bndp hf
    refine v_M1 (pc := 176) (As := [.int i2, .int i3, .int i4]) (rest := []) lmL_21 cu15 (sX_sheet e14) ⟨Nat.le_of_ble_eq_true rfl, Nat.le_of_ble_eq_true rfl, (by show ce + 0 ≤ 600000; omega), (by show sl + 0 ≤ 7302250; omega)⟩ dL_law_176 rfl rfl (Nat.le_of_ble_eq_true rfl) ?_
    refine v_aload_n (i := 2) (pc := 179) dL_law_179 rfl rfl ?_
    refine v_aload_n (i := 0) (pc := 180) dL_law_180 rfl rfl ?_
    refine v_iload_n (i := 3) (pc := 181) dL_law_181 rfl rfl ?_
    refine v_iconst (pc := 182) (1:Int32) dL_law_182 rfl ?_
    refine v_iadd (pc := 183) dL_law_183 ?_
    refine v_sldB (pc := 184) hX dL_law_184 hf (fun i7 hf => ?_)
    refine v_aload_n (i := 0) (pc := 185) dL_law_185 rfl rfl ?_
    refine v_iload_n (i := 3) (pc := 186) dL_law_186 rfl rfl ?_
    refine v_iconst (pc := 187) (2:Int32) dL_law_187 rfl ?_
    refine v_iadd (pc := 188) dL_law_188 ?_
    refine v_sldB (pc := 189) hX dL_law_189 hf (fun i8 hf => ?_)
    refine v_aload_n (i := 0) (pc := 190) dL_law_190 rfl rfl ?_
    refine v_iload_n (i := 3) (pc := 191) dL_law_191 rfl rfl ?_
    refine v_iconst (pc := 192) (3:Int32) dL_law_192 rfl ?_
    refine v_iadd (pc := 193) dL_law_193 ?_
    refine v_sldB (pc := 194) hX dL_law_194 hf (fun i9 hf => ?_)
    obtain ⟨u13, cu13, hf⟩ := bnd hf
    obtain ⟨h10, i11, e12, hf⟩ := bndp hf
    refine v_M1 (pc := 195) (As := [.int i7, .int i8, .int i9]) (rest := [.int i6]) lmL_25 cu13 (sM_sheet e12) ⟨Nat.le_of_ble_eq_true rfl, Nat.le_of_ble_eq_true rfl, (by show ce + 0 + 0 ≤ 600000; omega), (by show sl + 0 + 0 ≤ 7302250; omega)⟩ dL_law_195 rfl rfl (Nat.le_of_ble_eq_true rfl) ?_
    refine v_icmp_eq (pc := 198) (tgt := 1119) dL_law_198 rfl hf (fun hf => ?_) (fun hf => ?_)
    rotate_left
    · refine v_iconst (pc := 201) (0:Int32) dL_law_201 rfl ?_
      cases hf
    refine v_iinc (pc := 1119) (v := (x3 + (6:Int32))) (ls' := [some (.ref 0), some (.ref x1), some (.ref x2), some (.int (x3 + (6:Int32)))]) dL_law_1119 rfl rfl (by decide) rfl ?_
    refine v_goto (pc := 1122) (tgt := 28) dL_law_1122 rfl ?_
    refine v_widen (ce' := ce + 4) (sl' := sl + 115) (by show ce + 0 + 0 ≤ ce + 4; omega) (by show sl + 0 + 0 ≤ sl + 115; omega) ?_
    exact hk28 h10 x1 x2 (x3 + (6:Int32)) hf
  replace hf := if_f hf e330
  by_cases e331 : (i1 &&& (31:Int32)) = (1:Int32)
  · replace hf := if_t hf e331
    refine v_tswI (pc := 43) (tgt := 203) (off := 160) dL_law_43 (by rw [e331]; decide) (by rw [e331]; decide) (by rw [e331]; decide) rfl ?_
    refine v_aload_n (i := 1) (pc := 203) dL_law_203 rfl rfl ?_
    refine v_aload_n (i := 0) (pc := 204) dL_law_204 rfl rfl ?_
    refine v_iload_n (i := 3) (pc := 205) dL_law_205 rfl rfl ?_
    refine v_iconst (pc := 206) (1:Int32) dL_law_206 rfl ?_
    refine v_iadd (pc := 207) dL_law_207 ?_
    refine v_sldB (pc := 208) hX dL_law_208 hf (fun i16 hf => ?_)
    refine v_aload_n (i := 0) (pc := 209) dL_law_209 rfl rfl ?_
    refine v_iload_n (i := 3) (pc := 210) dL_law_210 rfl rfl ?_
    refine v_iconst (pc := 211) (2:Int32) dL_law_211 rfl ?_
    refine v_iadd (pc := 212) dL_law_212 ?_
    refine v_sldB (pc := 213) hX dL_law_213 hf (fun i17 hf => ?_)
    refine v_aload_n (i := 0) (pc := 214) dL_law_214 rfl rfl ?_
    refine v_iload_n (i := 3) (pc := 215) dL_law_215 rfl rfl ?_
    refine v_iconst (pc := 216) (3:Int32) dL_law_216 rfl ?_
    refine v_iadd (pc := 217) dL_law_217 ?_
    refine v_sldB (pc := 218) hX dL_law_218 hf (fun i18 hf => ?_)
    refine v_i2l (pc := 219) dL_law_219 ?_
    refine v_bipush (pc := 220) (32:Int32) dL_law_220 rfl ?_
    refine v_lshl (pc := 222) dL_law_222 ?_
    refine v_aload_n (i := 0) (pc := 223) dL_law_223 rfl rfl ?_
    refine v_iload_n (i := 3) (pc := 224) dL_law_224 rfl rfl ?_
    refine v_iconst (pc := 225) (4:Int32) dL_law_225 rfl ?_
    refine v_iadd (pc := 226) dL_law_226 ?_
    refine v_sldB (pc := 227) hX dL_law_227 hf (fun i19 hf => ?_)
    refine v_i2l (pc := 228) dL_law_228 ?_
    refine v_ldc2 (pc := 229) dL_law_229 klL_26 ?_
    refine v_land (pc := 232) dL_law_232 ?_
    refine v_lor (pc := 233) dL_law_233 ?_
    obtain ⟨u31, cu31, hf⟩ := bnd hf
    obtain ⟨h20, j21, e30, hf⟩ := bndp hf
    refine v_M1 (pc := 234) (As := [.int i16, .int i17, .long ((i18.toInt64 <<< ((32:Int32).toInt64 &&& 63)) ||| (i19.toInt64 &&& (4294967295:Int64)))]) (rest := []) lmL_28 cu31 (sX_set e30) ⟨Nat.le_of_ble_eq_true rfl, Nat.le_of_ble_eq_true rfl, (by show ce + 0 ≤ 600000; omega), (by show sl + 0 ≤ 7302250; omega)⟩ dL_law_234 rfl rfl (Nat.le_of_ble_eq_true rfl) ?_
    refine v_aload_n (i := 2) (pc := 237) dL_law_237 rfl rfl ?_
    refine v_aload_n (i := 0) (pc := 238) dL_law_238 rfl rfl ?_
    refine v_iload_n (i := 3) (pc := 239) dL_law_239 rfl rfl ?_
    refine v_iconst (pc := 240) (1:Int32) dL_law_240 rfl ?_
    refine v_iadd (pc := 241) dL_law_241 ?_
    refine v_sldB (pc := 242) hX dL_law_242 hf (fun i22 hf => ?_)
    refine v_aload_n (i := 0) (pc := 243) dL_law_243 rfl rfl ?_
    refine v_iload_n (i := 3) (pc := 244) dL_law_244 rfl rfl ?_
    refine v_iconst (pc := 245) (2:Int32) dL_law_245 rfl ?_
    refine v_iadd (pc := 246) dL_law_246 ?_
    refine v_sldB (pc := 247) hX dL_law_247 hf (fun i23 hf => ?_)
    refine v_aload_n (i := 0) (pc := 248) dL_law_248 rfl rfl ?_
    refine v_iload_n (i := 3) (pc := 249) dL_law_249 rfl rfl ?_
    refine v_iconst (pc := 250) (3:Int32) dL_law_250 rfl ?_
    refine v_iadd (pc := 251) dL_law_251 ?_
    refine v_sldB (pc := 252) hX dL_law_252 hf (fun i24 hf => ?_)
    refine v_i2l (pc := 253) dL_law_253 ?_
    refine v_bipush (pc := 254) (32:Int32) dL_law_254 rfl ?_
    refine v_lshl (pc := 256) dL_law_256 ?_
    refine v_aload_n (i := 0) (pc := 257) dL_law_257 rfl rfl ?_
    refine v_iload_n (i := 3) (pc := 258) dL_law_258 rfl rfl ?_
    refine v_iconst (pc := 259) (4:Int32) dL_law_259 rfl ?_
    refine v_iadd (pc := 260) dL_law_260 ?_
    refine v_sldB (pc := 261) hX dL_law_261 hf (fun i25 hf => ?_)
    refine v_i2l (pc := 262) dL_law_262 ?_
    refine v_ldc2 (pc := 263) dL_law_263 klL_26 ?_
    refine v_land (pc := 266) dL_law_266 ?_
    refine v_lor (pc := 267) dL_law_267 ?_
    obtain ⟨u29, cu29, hf⟩ := bnd hf
    obtain ⟨h26, j27, e28, hf⟩ := bndp hf
    refine v_M1 (pc := 268) (As := [.int i22, .int i23, .long ((i24.toInt64 <<< ((32:Int32).toInt64 &&& 63)) ||| (i25.toInt64 &&& (4294967295:Int64)))]) (rest := [.long j21]) lmL_32 cu29 (sM_set e28) ⟨Nat.le_of_ble_eq_true rfl, Nat.le_of_ble_eq_true rfl, (by show ce + 0 + 0 ≤ 600000; omega), (by show sl + 0 + 0 ≤ 7302250; omega)⟩ dL_law_268 rfl rfl (Nat.le_of_ble_eq_true rfl) ?_
    refine v_lcmp_eq (pc := 271) (tgt := 1119) dL_law_271 dL_law_272 rfl hf (fun hf => ?_) (fun hf => ?_)
    rotate_left
    · refine v_iconst (pc := 275) (0:Int32) dL_law_275 rfl ?_
      cases hf
    refine v_iinc (pc := 1119) (v := (x3 + (6:Int32))) (ls' := [some (.ref 0), some (.ref x1), some (.ref x2), some (.int (x3 + (6:Int32)))]) dL_law_1119 rfl rfl (by decide) rfl ?_
    refine v_goto (pc := 1122) (tgt := 28) dL_law_1122 rfl ?_
    refine v_widen (ce' := ce + 4) (sl' := sl + 115) (by show ce + 0 + 0 ≤ ce + 4; omega) (by show sl + 0 + 0 ≤ sl + 115; omega) ?_
    exact hk28 h26 x1 x2 (x3 + (6:Int32)) hf
  replace hf := if_f hf e331
  by_cases e332 : (i1 &&& (31:Int32)) = (2:Int32)
  · replace hf := if_t hf e332
    refine v_tswI (pc := 43) (tgt := 277) (off := 234) dL_law_43 (by rw [e332]; decide) (by rw [e332]; decide) (by rw [e332]; decide) rfl ?_
    refine v_aload_n (i := 1) (pc := 277) dL_law_277 rfl rfl ?_
    refine v_aload_n (i := 0) (pc := 278) dL_law_278 rfl rfl ?_
    refine v_iload_n (i := 3) (pc := 279) dL_law_279 rfl rfl ?_
    refine v_iconst (pc := 280) (1:Int32) dL_law_280 rfl ?_
    refine v_iadd (pc := 281) dL_law_281 ?_
    refine v_sldB (pc := 282) hX dL_law_282 hf (fun i32 hf => ?_)
    refine v_aload_n (i := 0) (pc := 283) dL_law_283 rfl rfl ?_
    refine v_iload_n (i := 3) (pc := 284) dL_law_284 rfl rfl ?_
    refine v_iconst (pc := 285) (2:Int32) dL_law_285 rfl ?_
    refine v_iadd (pc := 286) dL_law_286 ?_
    refine v_sldB (pc := 287) hX dL_law_287 hf (fun i33 hf => ?_)
    refine v_aload_n (i := 0) (pc := 288) dL_law_288 rfl rfl ?_
    refine v_iload_n (i := 3) (pc := 289) dL_law_289 rfl rfl ?_
    refine v_iconst (pc := 290) (3:Int32) dL_law_290 rfl ?_
    refine v_iadd (pc := 291) dL_law_291 ?_
    refine v_sldB (pc := 292) hX dL_law_292 hf (fun i34 hf => ?_)
    refine v_aload_n (i := 0) (pc := 293) dL_law_293 rfl rfl ?_
    refine v_iload_n (i := 3) (pc := 294) dL_law_294 rfl rfl ?_
    refine v_iconst (pc := 295) (4:Int32) dL_law_295 rfl ?_
    refine v_iadd (pc := 296) dL_law_296 ?_
    refine v_sldB (pc := 297) hX dL_law_297 hf (fun i35 hf => ?_)
    refine v_aload_n (i := 0) (pc := 298) dL_law_298 rfl rfl ?_
    refine v_iload_n (i := 3) (pc := 299) dL_law_299 rfl rfl ?_
    refine v_iconst (pc := 300) (5:Int32) dL_law_300 rfl ?_
    refine v_iadd (pc := 301) dL_law_301 ?_
    refine v_sldB (pc := 302) hX dL_law_302 hf (fun i36 hf => ?_)
    obtain ⟨u49, cu49, hf⟩ := bnd hf
    obtain ⟨h37, i38, e48, hf⟩ := bndp hf
    refine v_M1 (pc := 303) (As := [.int i32, .int i33, .int i34, .int i35, .int i36]) (rest := []) lmL_33 cu49 (sX_copy e48) ⟨Nat.le_of_ble_eq_true rfl, Nat.le_of_ble_eq_true rfl, (by show ce + 0 ≤ 600000; omega), (by show sl + 0 ≤ 7302250; omega)⟩ dL_law_303 rfl rfl (Nat.le_of_ble_eq_true rfl) ?_
    refine v_aload_n (i := 2) (pc := 306) dL_law_306 rfl rfl ?_
    refine v_aload_n (i := 0) (pc := 307) dL_law_307 rfl rfl ?_
    refine v_iload_n (i := 3) (pc := 308) dL_law_308 rfl rfl ?_
    refine v_iconst (pc := 309) (1:Int32) dL_law_309 rfl ?_
    refine v_iadd (pc := 310) dL_law_310 ?_
    refine v_sldB (pc := 311) hX dL_law_311 hf (fun i39 hf => ?_)
    refine v_aload_n (i := 0) (pc := 312) dL_law_312 rfl rfl ?_
    refine v_iload_n (i := 3) (pc := 313) dL_law_313 rfl rfl ?_
    refine v_iconst (pc := 314) (2:Int32) dL_law_314 rfl ?_
    refine v_iadd (pc := 315) dL_law_315 ?_
    refine v_sldB (pc := 316) hX dL_law_316 hf (fun i40 hf => ?_)
    refine v_aload_n (i := 0) (pc := 317) dL_law_317 rfl rfl ?_
    refine v_iload_n (i := 3) (pc := 318) dL_law_318 rfl rfl ?_
    refine v_iconst (pc := 319) (3:Int32) dL_law_319 rfl ?_
    refine v_iadd (pc := 320) dL_law_320 ?_
    refine v_sldB (pc := 321) hX dL_law_321 hf (fun i41 hf => ?_)
    refine v_aload_n (i := 0) (pc := 322) dL_law_322 rfl rfl ?_
    refine v_iload_n (i := 3) (pc := 323) dL_law_323 rfl rfl ?_
    refine v_iconst (pc := 324) (4:Int32) dL_law_324 rfl ?_
    refine v_iadd (pc := 325) dL_law_325 ?_
    refine v_sldB (pc := 326) hX dL_law_326 hf (fun i42 hf => ?_)
    refine v_aload_n (i := 0) (pc := 327) dL_law_327 rfl rfl ?_
    refine v_iload_n (i := 3) (pc := 328) dL_law_328 rfl rfl ?_
    refine v_iconst (pc := 329) (5:Int32) dL_law_329 rfl ?_
    refine v_iadd (pc := 330) dL_law_330 ?_
    refine v_sldB (pc := 331) hX dL_law_331 hf (fun i43 hf => ?_)
    obtain ⟨u47, cu47, hf⟩ := bnd hf
    obtain ⟨h44, i45, e46, hf⟩ := bndp hf
    refine v_M1 (pc := 332) (As := [.int i39, .int i40, .int i41, .int i42, .int i43]) (rest := [.int i38]) lmL_37 cu47 (sM_copy e46) ⟨Nat.le_of_ble_eq_true rfl, Nat.le_of_ble_eq_true rfl, (by show ce + 0 + 0 ≤ 600000; omega), (by show sl + 0 + 0 ≤ 7302250; omega)⟩ dL_law_332 rfl rfl (Nat.le_of_ble_eq_true rfl) ?_
    refine v_icmp_eq (pc := 335) (tgt := 1119) dL_law_335 rfl hf (fun hf => ?_) (fun hf => ?_)
    rotate_left
    · refine v_iconst (pc := 338) (0:Int32) dL_law_338 rfl ?_
      cases hf
    refine v_iinc (pc := 1119) (v := (x3 + (6:Int32))) (ls' := [some (.ref 0), some (.ref x1), some (.ref x2), some (.int (x3 + (6:Int32)))]) dL_law_1119 rfl rfl (by decide) rfl ?_
    refine v_goto (pc := 1122) (tgt := 28) dL_law_1122 rfl ?_
    refine v_widen (ce' := ce + 4) (sl' := sl + 115) (by show ce + 0 + 0 ≤ ce + 4; omega) (by show sl + 0 + 0 ≤ sl + 115; omega) ?_
    exact hk28 h44 x1 x2 (x3 + (6:Int32)) hf
  replace hf := if_f hf e332
  by_cases e333 : (i1 &&& (31:Int32)) = (3:Int32)
  · replace hf := if_t hf e333
    refine v_tswI (pc := 43) (tgt := 340) (off := 297) dL_law_43 (by rw [e333]; decide) (by rw [e333]; decide) (by rw [e333]; decide) rfl ?_
    refine v_aload_n (i := 1) (pc := 340) dL_law_340 rfl rfl ?_
    refine v_aload_n (i := 0) (pc := 341) dL_law_341 rfl rfl ?_
    refine v_iload_n (i := 3) (pc := 342) dL_law_342 rfl rfl ?_
    refine v_iconst (pc := 343) (1:Int32) dL_law_343 rfl ?_
    refine v_iadd (pc := 344) dL_law_344 ?_
    refine v_sldB (pc := 345) hX dL_law_345 hf (fun i50 hf => ?_)
    obtain ⟨u59, cu59, hf⟩ := bnd hf
    obtain ⟨h51, i52, e58, hf⟩ := bndp hf
    refine v_M1 (pc := 346) (As := [.int i50]) (rest := []) lmL_38 cu59 (sX_drop e58) ⟨Nat.le_of_ble_eq_true rfl, Nat.le_of_ble_eq_true rfl, (by show ce + 0 ≤ 600000; omega), (by show sl + 0 ≤ 7302250; omega)⟩ dL_law_346 rfl rfl (Nat.le_of_ble_eq_true rfl) ?_
    refine v_aload_n (i := 2) (pc := 349) dL_law_349 rfl rfl ?_
    refine v_aload_n (i := 0) (pc := 350) dL_law_350 rfl rfl ?_
    refine v_iload_n (i := 3) (pc := 351) dL_law_351 rfl rfl ?_
    refine v_iconst (pc := 352) (1:Int32) dL_law_352 rfl ?_
    refine v_iadd (pc := 353) dL_law_353 ?_
    refine v_sldB (pc := 354) hX dL_law_354 hf (fun i53 hf => ?_)
    obtain ⟨u57, cu57, hf⟩ := bnd hf
    obtain ⟨h54, i55, e56, hf⟩ := bndp hf
    refine v_M1 (pc := 355) (As := [.int i53]) (rest := [.int i52]) lmL_42 cu57 (sM_drop e56) ⟨Nat.le_of_ble_eq_true rfl, Nat.le_of_ble_eq_true rfl, (by show ce + 0 + 0 ≤ 600000; omega), (by show sl + 0 + 0 ≤ 7302250; omega)⟩ dL_law_355 rfl rfl (Nat.le_of_ble_eq_true rfl) ?_
    refine v_icmp_eq (pc := 358) (tgt := 1119) dL_law_358 rfl hf (fun hf => ?_) (fun hf => ?_)
    rotate_left
    · refine v_iconst (pc := 361) (0:Int32) dL_law_361 rfl ?_
      cases hf
    refine v_iinc (pc := 1119) (v := (x3 + (6:Int32))) (ls' := [some (.ref 0), some (.ref x1), some (.ref x2), some (.int (x3 + (6:Int32)))]) dL_law_1119 rfl rfl (by decide) rfl ?_
    refine v_goto (pc := 1122) (tgt := 28) dL_law_1122 rfl ?_
    refine v_widen (ce' := ce + 4) (sl' := sl + 115) (by show ce + 0 + 0 ≤ ce + 4; omega) (by show sl + 0 + 0 ≤ sl + 115; omega) ?_
    exact hk28 h54 x1 x2 (x3 + (6:Int32)) hf
  replace hf := if_f hf e333
  by_cases e334 : (i1 &&& (31:Int32)) = (4:Int32)
  · replace hf := if_t hf e334
    refine v_tswI (pc := 43) (tgt := 363) (off := 320) dL_law_43 (by rw [e334]; decide) (by rw [e334]; decide) (by rw [e334]; decide) rfl ?_
    refine v_aload_n (i := 1) (pc := 363) dL_law_363 rfl rfl ?_
    refine v_aload_n (i := 0) (pc := 364) dL_law_364 rfl rfl ?_
    refine v_iload_n (i := 3) (pc := 365) dL_law_365 rfl rfl ?_
    refine v_iconst (pc := 366) (1:Int32) dL_law_366 rfl ?_
    refine v_iadd (pc := 367) dL_law_367 ?_
    refine v_sldB (pc := 368) hX dL_law_368 hf (fun i60 hf => ?_)
    obtain ⟨u69, cu69, hf⟩ := bnd hf
    obtain ⟨h61, i62, e68, hf⟩ := bndp hf
    refine v_M1 (pc := 369) (As := [.int i60]) (rest := []) lmL_43 cu69 (sX_trees e68) ⟨Nat.le_of_ble_eq_true rfl, Nat.le_of_ble_eq_true rfl, (by show ce + 0 ≤ 600000; omega), (by show sl + 0 ≤ 7302250; omega)⟩ dL_law_369 rfl rfl (Nat.le_of_ble_eq_true rfl) ?_
    refine v_aload_n (i := 2) (pc := 372) dL_law_372 rfl rfl ?_
    refine v_aload_n (i := 0) (pc := 373) dL_law_373 rfl rfl ?_
    refine v_iload_n (i := 3) (pc := 374) dL_law_374 rfl rfl ?_
    refine v_iconst (pc := 375) (1:Int32) dL_law_375 rfl ?_
    refine v_iadd (pc := 376) dL_law_376 ?_
    refine v_sldB (pc := 377) hX dL_law_377 hf (fun i63 hf => ?_)
    obtain ⟨u67, cu67, hf⟩ := bnd hf
    obtain ⟨h64, i65, e66, hf⟩ := bndp hf
    refine v_M1 (pc := 378) (As := [.int i63]) (rest := [.int i62]) lmL_46 cu67 (sM_trees e66) ⟨Nat.le_of_ble_eq_true rfl, Nat.le_of_ble_eq_true rfl, (by show ce + 0 + 0 ≤ 600000; omega), (by show sl + 0 + 0 ≤ 7302250; omega)⟩ dL_law_378 rfl rfl (Nat.le_of_ble_eq_true rfl) ?_
    refine v_icmp_eq (pc := 381) (tgt := 1119) dL_law_381 rfl hf (fun hf => ?_) (fun hf => ?_)
    rotate_left
    · refine v_iconst (pc := 384) (0:Int32) dL_law_384 rfl ?_
      cases hf
    refine v_iinc (pc := 1119) (v := (x3 + (6:Int32))) (ls' := [some (.ref 0), some (.ref x1), some (.ref x2), some (.int (x3 + (6:Int32)))]) dL_law_1119 rfl rfl (by decide) rfl ?_
    refine v_goto (pc := 1122) (tgt := 28) dL_law_1122 rfl ?_
    refine v_widen (ce' := ce + 4) (sl' := sl + 115) (by show ce + 0 + 0 ≤ ce + 4; omega) (by show sl + 0 + 0 ≤ sl + 115; omega) ?_
    exact hk28 h64 x1 x2 (x3 + (6:Int32)) hf
  replace hf := if_f hf e334
  by_cases e335 : (i1 &&& (31:Int32)) = (5:Int32)
  · replace hf := if_t hf e335
    refine v_tswI (pc := 43) (tgt := 386) (off := 343) dL_law_43 (by rw [e335]; decide) (by rw [e335]; decide) (by rw [e335]; decide) rfl ?_
    refine v_aload_n (i := 1) (pc := 386) dL_law_386 rfl rfl ?_
    refine v_aload_n (i := 0) (pc := 387) dL_law_387 rfl rfl ?_
    refine v_iload_n (i := 3) (pc := 388) dL_law_388 rfl rfl ?_
    refine v_iconst (pc := 389) (1:Int32) dL_law_389 rfl ?_
    refine v_iadd (pc := 390) dL_law_390 ?_
    refine v_sldB (pc := 391) hX dL_law_391 hf (fun i70 hf => ?_)
    refine v_aload_n (i := 0) (pc := 392) dL_law_392 rfl rfl ?_
    refine v_iload_n (i := 3) (pc := 393) dL_law_393 rfl rfl ?_
    refine v_iconst (pc := 394) (2:Int32) dL_law_394 rfl ?_
    refine v_iadd (pc := 395) dL_law_395 ?_
    refine v_sldB (pc := 396) hX dL_law_396 hf (fun i71 hf => ?_)
    obtain ⟨u81, cu81, hf⟩ := bnd hf
    obtain ⟨h72, i73, e80, hf⟩ := bndp hf
    refine v_M1 (pc := 397) (As := [.int i70, .int i71]) (rest := []) lmL_47 cu81 (sX_tree e80) ⟨Nat.le_of_ble_eq_true rfl, Nat.le_of_ble_eq_true rfl, (by show ce + 0 ≤ 600000; omega), (by show sl + 0 ≤ 7302250; omega)⟩ dL_law_397 rfl rfl (Nat.le_of_ble_eq_true rfl) ?_
    refine v_aload_n (i := 2) (pc := 400) dL_law_400 rfl rfl ?_
    refine v_aload_n (i := 0) (pc := 401) dL_law_401 rfl rfl ?_
    refine v_iload_n (i := 3) (pc := 402) dL_law_402 rfl rfl ?_
    refine v_iconst (pc := 403) (1:Int32) dL_law_403 rfl ?_
    refine v_iadd (pc := 404) dL_law_404 ?_
    refine v_sldB (pc := 405) hX dL_law_405 hf (fun i74 hf => ?_)
    refine v_aload_n (i := 0) (pc := 406) dL_law_406 rfl rfl ?_
    refine v_iload_n (i := 3) (pc := 407) dL_law_407 rfl rfl ?_
    refine v_iconst (pc := 408) (2:Int32) dL_law_408 rfl ?_
    refine v_iadd (pc := 409) dL_law_409 ?_
    refine v_sldB (pc := 410) hX dL_law_410 hf (fun i75 hf => ?_)
    obtain ⟨u79, cu79, hf⟩ := bnd hf
    obtain ⟨h76, i77, e78, hf⟩ := bndp hf
    refine v_M1 (pc := 411) (As := [.int i74, .int i75]) (rest := [.int i73]) lmL_51 cu79 (sM_tree e78) ⟨Nat.le_of_ble_eq_true rfl, Nat.le_of_ble_eq_true rfl, (by show ce + 0 + 0 ≤ 600000; omega), (by show sl + 0 + 0 ≤ 7302250; omega)⟩ dL_law_411 rfl rfl (Nat.le_of_ble_eq_true rfl) ?_
    refine v_icmp_eq (pc := 414) (tgt := 1119) dL_law_414 rfl hf (fun hf => ?_) (fun hf => ?_)
    rotate_left
    · refine v_iconst (pc := 417) (0:Int32) dL_law_417 rfl ?_
      cases hf
    refine v_iinc (pc := 1119) (v := (x3 + (6:Int32))) (ls' := [some (.ref 0), some (.ref x1), some (.ref x2), some (.int (x3 + (6:Int32)))]) dL_law_1119 rfl rfl (by decide) rfl ?_
    refine v_goto (pc := 1122) (tgt := 28) dL_law_1122 rfl ?_
    refine v_widen (ce' := ce + 4) (sl' := sl + 115) (by show ce + 0 + 0 ≤ ce + 4; omega) (by show sl + 0 + 0 ≤ sl + 115; omega) ?_
    exact hk28 h76 x1 x2 (x3 + (6:Int32)) hf
  replace hf := if_f hf e335
  by_cases e336 : (i1 &&& (31:Int32)) = (6:Int32)
  · replace hf := if_t hf e336
    refine v_tswI (pc := 43) (tgt := 419) (off := 376) dL_law_43 (by rw [e336]; decide) (by rw [e336]; decide) (by rw [e336]; decide) rfl ?_
    refine v_aload_n (i := 1) (pc := 419) dL_law_419 rfl rfl ?_
    refine v_aload_n (i := 0) (pc := 420) dL_law_420 rfl rfl ?_
    refine v_iload_n (i := 3) (pc := 421) dL_law_421 rfl rfl ?_
    refine v_iconst (pc := 422) (1:Int32) dL_law_422 rfl ?_
    refine v_iadd (pc := 423) dL_law_423 ?_
    refine v_sldB (pc := 424) hX dL_law_424 hf (fun i82 hf => ?_)
    refine v_aload_n (i := 0) (pc := 425) dL_law_425 rfl rfl ?_
    refine v_iload_n (i := 3) (pc := 426) dL_law_426 rfl rfl ?_
    refine v_iconst (pc := 427) (2:Int32) dL_law_427 rfl ?_
    refine v_iadd (pc := 428) dL_law_428 ?_
    refine v_sldB (pc := 429) hX dL_law_429 hf (fun i83 hf => ?_)
    obtain ⟨u93, cu93, hf⟩ := bnd hf
    obtain ⟨h84, i85, e92, hf⟩ := bndp hf
    refine v_M1 (pc := 430) (As := [.int i82, .int i83]) (rest := []) lmL_52 cu93 (sX_level e92) ⟨Nat.le_of_ble_eq_true rfl, Nat.le_of_ble_eq_true rfl, (by show ce + 0 ≤ 600000; omega), (by show sl + 0 ≤ 7302250; omega)⟩ dL_law_430 rfl rfl (Nat.le_of_ble_eq_true rfl) ?_
    refine v_aload_n (i := 2) (pc := 433) dL_law_433 rfl rfl ?_
    refine v_aload_n (i := 0) (pc := 434) dL_law_434 rfl rfl ?_
    refine v_iload_n (i := 3) (pc := 435) dL_law_435 rfl rfl ?_
    refine v_iconst (pc := 436) (1:Int32) dL_law_436 rfl ?_
    refine v_iadd (pc := 437) dL_law_437 ?_
    refine v_sldB (pc := 438) hX dL_law_438 hf (fun i86 hf => ?_)
    refine v_aload_n (i := 0) (pc := 439) dL_law_439 rfl rfl ?_
    refine v_iload_n (i := 3) (pc := 440) dL_law_440 rfl rfl ?_
    refine v_iconst (pc := 441) (2:Int32) dL_law_441 rfl ?_
    refine v_iadd (pc := 442) dL_law_442 ?_
    refine v_sldB (pc := 443) hX dL_law_443 hf (fun i87 hf => ?_)
    obtain ⟨u91, cu91, hf⟩ := bnd hf
    obtain ⟨h88, i89, e90, hf⟩ := bndp hf
    refine v_M1 (pc := 444) (As := [.int i86, .int i87]) (rest := [.int i85]) lmL_55 cu91 (sM_level e90) ⟨Nat.le_of_ble_eq_true rfl, Nat.le_of_ble_eq_true rfl, (by show ce + 0 + 0 ≤ 600000; omega), (by show sl + 0 + 0 ≤ 7302250; omega)⟩ dL_law_444 rfl rfl (Nat.le_of_ble_eq_true rfl) ?_
    refine v_icmp_eq (pc := 447) (tgt := 1119) dL_law_447 rfl hf (fun hf => ?_) (fun hf => ?_)
    rotate_left
    · refine v_iconst (pc := 450) (0:Int32) dL_law_450 rfl ?_
      cases hf
    refine v_iinc (pc := 1119) (v := (x3 + (6:Int32))) (ls' := [some (.ref 0), some (.ref x1), some (.ref x2), some (.int (x3 + (6:Int32)))]) dL_law_1119 rfl rfl (by decide) rfl ?_
    refine v_goto (pc := 1122) (tgt := 28) dL_law_1122 rfl ?_
    refine v_widen (ce' := ce + 4) (sl' := sl + 115) (by show ce + 0 + 0 ≤ ce + 4; omega) (by show sl + 0 + 0 ≤ sl + 115; omega) ?_
    exact hk28 h88 x1 x2 (x3 + (6:Int32)) hf
  replace hf := if_f hf e336
  by_cases e337 : (i1 &&& (31:Int32)) = (7:Int32)
  · replace hf := if_t hf e337
    refine v_tswI (pc := 43) (tgt := 452) (off := 409) dL_law_43 (by rw [e337]; decide) (by rw [e337]; decide) (by rw [e337]; decide) rfl ?_
    refine v_aload_n (i := 1) (pc := 452) dL_law_452 rfl rfl ?_
    refine v_aload_n (i := 0) (pc := 453) dL_law_453 rfl rfl ?_
    refine v_iload_n (i := 3) (pc := 454) dL_law_454 rfl rfl ?_
    refine v_iconst (pc := 455) (1:Int32) dL_law_455 rfl ?_
    refine v_iadd (pc := 456) dL_law_456 ?_
    refine v_sldB (pc := 457) hX dL_law_457 hf (fun i94 hf => ?_)
    refine v_aload_n (i := 0) (pc := 458) dL_law_458 rfl rfl ?_
    refine v_iload_n (i := 3) (pc := 459) dL_law_459 rfl rfl ?_
    refine v_iconst (pc := 460) (2:Int32) dL_law_460 rfl ?_
    refine v_iadd (pc := 461) dL_law_461 ?_
    refine v_sldB (pc := 462) hX dL_law_462 hf (fun i95 hf => ?_)
    obtain ⟨u105, cu105, hf⟩ := bnd hf
    obtain ⟨h96, i97, e104, hf⟩ := bndp hf
    refine v_M1 (pc := 463) (As := [.int i94, .int i95]) (rest := []) lmL_56 cu105 (sX_hang e104) ⟨Nat.le_of_ble_eq_true rfl, Nat.le_of_ble_eq_true rfl, (by show ce + 0 ≤ 600000; omega), (by show sl + 0 ≤ 7302250; omega)⟩ dL_law_463 rfl rfl (Nat.le_of_ble_eq_true rfl) ?_
    refine v_aload_n (i := 2) (pc := 466) dL_law_466 rfl rfl ?_
    refine v_aload_n (i := 0) (pc := 467) dL_law_467 rfl rfl ?_
    refine v_iload_n (i := 3) (pc := 468) dL_law_468 rfl rfl ?_
    refine v_iconst (pc := 469) (1:Int32) dL_law_469 rfl ?_
    refine v_iadd (pc := 470) dL_law_470 ?_
    refine v_sldB (pc := 471) hX dL_law_471 hf (fun i98 hf => ?_)
    refine v_aload_n (i := 0) (pc := 472) dL_law_472 rfl rfl ?_
    refine v_iload_n (i := 3) (pc := 473) dL_law_473 rfl rfl ?_
    refine v_iconst (pc := 474) (2:Int32) dL_law_474 rfl ?_
    refine v_iadd (pc := 475) dL_law_475 ?_
    refine v_sldB (pc := 476) hX dL_law_476 hf (fun i99 hf => ?_)
    obtain ⟨u103, cu103, hf⟩ := bnd hf
    obtain ⟨h100, i101, e102, hf⟩ := bndp hf
    refine v_M1 (pc := 477) (As := [.int i98, .int i99]) (rest := [.int i97]) lmL_59 cu103 (sM_hang e102) ⟨Nat.le_of_ble_eq_true rfl, Nat.le_of_ble_eq_true rfl, (by show ce + 0 + 0 ≤ 600000; omega), (by show sl + 0 + 0 ≤ 7302250; omega)⟩ dL_law_477 rfl rfl (Nat.le_of_ble_eq_true rfl) ?_
    refine v_icmp_eq (pc := 480) (tgt := 1119) dL_law_480 rfl hf (fun hf => ?_) (fun hf => ?_)
    rotate_left
    · refine v_iconst (pc := 483) (0:Int32) dL_law_483 rfl ?_
      cases hf
    refine v_iinc (pc := 1119) (v := (x3 + (6:Int32))) (ls' := [some (.ref 0), some (.ref x1), some (.ref x2), some (.int (x3 + (6:Int32)))]) dL_law_1119 rfl rfl (by decide) rfl ?_
    refine v_goto (pc := 1122) (tgt := 28) dL_law_1122 rfl ?_
    refine v_widen (ce' := ce + 4) (sl' := sl + 115) (by show ce + 0 + 0 ≤ ce + 4; omega) (by show sl + 0 + 0 ≤ sl + 115; omega) ?_
    exact hk28 h100 x1 x2 (x3 + (6:Int32)) hf
  replace hf := if_f hf e337
  by_cases e338 : (i1 &&& (31:Int32)) = (8:Int32)
  · replace hf := if_t hf e338
    refine v_tswI (pc := 43) (tgt := 485) (off := 442) dL_law_43 (by rw [e338]; decide) (by rw [e338]; decide) (by rw [e338]; decide) rfl ?_
    refine v_aload_n (i := 1) (pc := 485) dL_law_485 rfl rfl ?_
    refine v_aload_n (i := 0) (pc := 486) dL_law_486 rfl rfl ?_
    refine v_iload_n (i := 3) (pc := 487) dL_law_487 rfl rfl ?_
    refine v_iconst (pc := 488) (1:Int32) dL_law_488 rfl ?_
    refine v_iadd (pc := 489) dL_law_489 ?_
    refine v_sldB (pc := 490) hX dL_law_490 hf (fun i106 hf => ?_)
    refine v_aload_n (i := 0) (pc := 491) dL_law_491 rfl rfl ?_
    refine v_iload_n (i := 3) (pc := 492) dL_law_492 rfl rfl ?_
    refine v_iconst (pc := 493) (2:Int32) dL_law_493 rfl ?_
    refine v_iadd (pc := 494) dL_law_494 ?_
    refine v_sldB (pc := 495) hX dL_law_495 hf (fun i107 hf => ?_)
    refine v_aload_n (i := 0) (pc := 496) dL_law_496 rfl rfl ?_
    refine v_iload_n (i := 3) (pc := 497) dL_law_497 rfl rfl ?_
    refine v_iconst (pc := 498) (3:Int32) dL_law_498 rfl ?_
    refine v_iadd (pc := 499) dL_law_499 ?_
    refine v_sldB (pc := 500) hX dL_law_500 hf (fun i108 hf => ?_)
    refine v_aload_n (i := 0) (pc := 501) dL_law_501 rfl rfl ?_
    refine v_iload_n (i := 3) (pc := 502) dL_law_502 rfl rfl ?_
    refine v_iconst (pc := 503) (4:Int32) dL_law_503 rfl ?_
    refine v_iadd (pc := 504) dL_law_504 ?_
    refine v_sldB (pc := 505) hX dL_law_505 hf (fun i109 hf => ?_)
    obtain ⟨u121, cu121, hf⟩ := bnd hf
    obtain ⟨h110, i111, e120, hf⟩ := bndp hf
    refine v_M1 (pc := 506) (As := [.int i106, .int i107, .int i108, .int i109]) (rest := []) lmL_60 cu121 (sX_table e120) ⟨Nat.le_of_ble_eq_true rfl, Nat.le_of_ble_eq_true rfl, (by show ce + 4 ≤ 600000; omega), (by show sl + 115 ≤ 7302250; omega)⟩ dL_law_506 rfl rfl (Nat.le_of_ble_eq_true rfl) ?_
    refine v_aload_n (i := 2) (pc := 509) dL_law_509 rfl rfl ?_
    refine v_aload_n (i := 0) (pc := 510) dL_law_510 rfl rfl ?_
    refine v_iload_n (i := 3) (pc := 511) dL_law_511 rfl rfl ?_
    refine v_iconst (pc := 512) (1:Int32) dL_law_512 rfl ?_
    refine v_iadd (pc := 513) dL_law_513 ?_
    refine v_sldB (pc := 514) hX dL_law_514 hf (fun i112 hf => ?_)
    refine v_aload_n (i := 0) (pc := 515) dL_law_515 rfl rfl ?_
    refine v_iload_n (i := 3) (pc := 516) dL_law_516 rfl rfl ?_
    refine v_iconst (pc := 517) (2:Int32) dL_law_517 rfl ?_
    refine v_iadd (pc := 518) dL_law_518 ?_
    refine v_sldB (pc := 519) hX dL_law_519 hf (fun i113 hf => ?_)
    refine v_aload_n (i := 0) (pc := 520) dL_law_520 rfl rfl ?_
    refine v_iload_n (i := 3) (pc := 521) dL_law_521 rfl rfl ?_
    refine v_iconst (pc := 522) (3:Int32) dL_law_522 rfl ?_
    refine v_iadd (pc := 523) dL_law_523 ?_
    refine v_sldB (pc := 524) hX dL_law_524 hf (fun i114 hf => ?_)
    refine v_aload_n (i := 0) (pc := 525) dL_law_525 rfl rfl ?_
    refine v_iload_n (i := 3) (pc := 526) dL_law_526 rfl rfl ?_
    refine v_iconst (pc := 527) (4:Int32) dL_law_527 rfl ?_
    refine v_iadd (pc := 528) dL_law_528 ?_
    refine v_sldB (pc := 529) hX dL_law_529 hf (fun i115 hf => ?_)
    obtain ⟨u119, cu119, hf⟩ := bnd hf
    obtain ⟨h116, i117, e118, hf⟩ := bndp hf
    refine v_M1 (pc := 530) (As := [.int i112, .int i113, .int i114, .int i115]) (rest := [.int i111]) lmL_64 cu119 (sM_table e118) ⟨Nat.le_of_ble_eq_true rfl, Nat.le_of_ble_eq_true rfl, (by show ce + 4 + 0 ≤ 600000; omega), (by show sl + 115 + 0 ≤ 7302250; omega)⟩ dL_law_530 rfl rfl (Nat.le_of_ble_eq_true rfl) ?_
    refine v_icmp_eq (pc := 533) (tgt := 1119) dL_law_533 rfl hf (fun hf => ?_) (fun hf => ?_)
    rotate_left
    · refine v_iconst (pc := 536) (0:Int32) dL_law_536 rfl ?_
      cases hf
    refine v_iinc (pc := 1119) (v := (x3 + (6:Int32))) (ls' := [some (.ref 0), some (.ref x1), some (.ref x2), some (.int (x3 + (6:Int32)))]) dL_law_1119 rfl rfl (by decide) rfl ?_
    refine v_goto (pc := 1122) (tgt := 28) dL_law_1122 rfl ?_
    refine v_widen (ce' := ce + 4) (sl' := sl + 115) (by show ce + 4 + 0 ≤ ce + 4; omega) (by show sl + 115 + 0 ≤ sl + 115; omega) ?_
    exact hk28 h116 x1 x2 (x3 + (6:Int32)) hf
  replace hf := if_f hf e338
  by_cases e339 : (i1 &&& (31:Int32)) = (9:Int32)
  · replace hf := if_t hf e339
    refine v_tswI (pc := 43) (tgt := 538) (off := 495) dL_law_43 (by rw [e339]; decide) (by rw [e339]; decide) (by rw [e339]; decide) rfl ?_
    refine v_aload_n (i := 1) (pc := 538) dL_law_538 rfl rfl ?_
    refine v_aload_n (i := 0) (pc := 539) dL_law_539 rfl rfl ?_
    refine v_iload_n (i := 3) (pc := 540) dL_law_540 rfl rfl ?_
    refine v_iconst (pc := 541) (1:Int32) dL_law_541 rfl ?_
    refine v_iadd (pc := 542) dL_law_542 ?_
    refine v_sldB (pc := 543) hX dL_law_543 hf (fun i122 hf => ?_)
    refine v_aload_n (i := 0) (pc := 544) dL_law_544 rfl rfl ?_
    refine v_iload_n (i := 3) (pc := 545) dL_law_545 rfl rfl ?_
    refine v_iconst (pc := 546) (2:Int32) dL_law_546 rfl ?_
    refine v_iadd (pc := 547) dL_law_547 ?_
    refine v_sldB (pc := 548) hX dL_law_548 hf (fun i123 hf => ?_)
    refine v_aload_n (i := 0) (pc := 549) dL_law_549 rfl rfl ?_
    refine v_iload_n (i := 3) (pc := 550) dL_law_550 rfl rfl ?_
    refine v_iconst (pc := 551) (3:Int32) dL_law_551 rfl ?_
    refine v_iadd (pc := 552) dL_law_552 ?_
    refine v_sldB (pc := 553) hX dL_law_553 hf (fun i124 hf => ?_)
    obtain ⟨u135, cu135, hf⟩ := bnd hf
    obtain ⟨h125, i126, e134, hf⟩ := bndp hf
    refine v_M1 (pc := 554) (As := [.int i122, .int i123, .int i124]) (rest := []) lmL_65 cu135 (sX_behind e134) ⟨Nat.le_of_ble_eq_true rfl, Nat.le_of_ble_eq_true rfl, (by show ce + 4 ≤ 600000; omega), (by show sl + 115 ≤ 7302250; omega)⟩ dL_law_554 rfl rfl (Nat.le_of_ble_eq_true rfl) ?_
    refine v_aload_n (i := 2) (pc := 557) dL_law_557 rfl rfl ?_
    refine v_aload_n (i := 0) (pc := 558) dL_law_558 rfl rfl ?_
    refine v_iload_n (i := 3) (pc := 559) dL_law_559 rfl rfl ?_
    refine v_iconst (pc := 560) (1:Int32) dL_law_560 rfl ?_
    refine v_iadd (pc := 561) dL_law_561 ?_
    refine v_sldB (pc := 562) hX dL_law_562 hf (fun i127 hf => ?_)
    refine v_aload_n (i := 0) (pc := 563) dL_law_563 rfl rfl ?_
    refine v_iload_n (i := 3) (pc := 564) dL_law_564 rfl rfl ?_
    refine v_iconst (pc := 565) (2:Int32) dL_law_565 rfl ?_
    refine v_iadd (pc := 566) dL_law_566 ?_
    refine v_sldB (pc := 567) hX dL_law_567 hf (fun i128 hf => ?_)
    refine v_aload_n (i := 0) (pc := 568) dL_law_568 rfl rfl ?_
    refine v_iload_n (i := 3) (pc := 569) dL_law_569 rfl rfl ?_
    refine v_iconst (pc := 570) (3:Int32) dL_law_570 rfl ?_
    refine v_iadd (pc := 571) dL_law_571 ?_
    refine v_sldB (pc := 572) hX dL_law_572 hf (fun i129 hf => ?_)
    obtain ⟨u133, cu133, hf⟩ := bnd hf
    obtain ⟨h130, i131, e132, hf⟩ := bndp hf
    refine v_M1 (pc := 573) (As := [.int i127, .int i128, .int i129]) (rest := [.int i126]) lmL_68 cu133 (sM_behind e132) ⟨Nat.le_of_ble_eq_true rfl, Nat.le_of_ble_eq_true rfl, (by show ce + 4 + 0 ≤ 600000; omega), (by show sl + 115 + 0 ≤ 7302250; omega)⟩ dL_law_573 rfl rfl (Nat.le_of_ble_eq_true rfl) ?_
    refine v_icmp_eq (pc := 576) (tgt := 1119) dL_law_576 rfl hf (fun hf => ?_) (fun hf => ?_)
    rotate_left
    · refine v_iconst (pc := 579) (0:Int32) dL_law_579 rfl ?_
      cases hf
    refine v_iinc (pc := 1119) (v := (x3 + (6:Int32))) (ls' := [some (.ref 0), some (.ref x1), some (.ref x2), some (.int (x3 + (6:Int32)))]) dL_law_1119 rfl rfl (by decide) rfl ?_
    refine v_goto (pc := 1122) (tgt := 28) dL_law_1122 rfl ?_
    refine v_widen (ce' := ce + 4) (sl' := sl + 115) (by show ce + 4 + 0 ≤ ce + 4; omega) (by show sl + 115 + 0 ≤ sl + 115; omega) ?_
    exact hk28 h130 x1 x2 (x3 + (6:Int32)) hf
  replace hf := if_f hf e339
  by_cases e340 : (i1 &&& (31:Int32)) = (10:Int32)
  · replace hf := if_t hf e340
    refine v_tswI (pc := 43) (tgt := 581) (off := 538) dL_law_43 (by rw [e340]; decide) (by rw [e340]; decide) (by rw [e340]; decide) rfl ?_
    refine v_aload_n (i := 1) (pc := 581) dL_law_581 rfl rfl ?_
    refine v_aload_n (i := 0) (pc := 582) dL_law_582 rfl rfl ?_
    refine v_iload_n (i := 3) (pc := 583) dL_law_583 rfl rfl ?_
    refine v_iconst (pc := 584) (1:Int32) dL_law_584 rfl ?_
    refine v_iadd (pc := 585) dL_law_585 ?_
    refine v_sldB (pc := 586) hX dL_law_586 hf (fun i136 hf => ?_)
    refine v_aload_n (i := 0) (pc := 587) dL_law_587 rfl rfl ?_
    refine v_iload_n (i := 3) (pc := 588) dL_law_588 rfl rfl ?_
    refine v_iconst (pc := 589) (2:Int32) dL_law_589 rfl ?_
    refine v_iadd (pc := 590) dL_law_590 ?_
    refine v_sldB (pc := 591) hX dL_law_591 hf (fun i137 hf => ?_)
    refine v_aload_n (i := 0) (pc := 592) dL_law_592 rfl rfl ?_
    refine v_iload_n (i := 3) (pc := 593) dL_law_593 rfl rfl ?_
    refine v_iconst (pc := 594) (3:Int32) dL_law_594 rfl ?_
    refine v_iadd (pc := 595) dL_law_595 ?_
    refine v_sldB (pc := 596) hX dL_law_596 hf (fun i138 hf => ?_)
    obtain ⟨u149, cu149, hf⟩ := bnd hf
    obtain ⟨h139, i140, e148, hf⟩ := bndp hf
    refine v_M1 (pc := 597) (As := [.int i136, .int i137, .int i138]) (rest := []) lmL_69 cu149 (sX_turn e148) ⟨Nat.le_of_ble_eq_true rfl, Nat.le_of_ble_eq_true rfl, (by show ce + 4 ≤ 600000; omega), (by show sl + 115 ≤ 7302250; omega)⟩ dL_law_597 rfl rfl (Nat.le_of_ble_eq_true rfl) ?_
    refine v_aload_n (i := 2) (pc := 600) dL_law_600 rfl rfl ?_
    refine v_aload_n (i := 0) (pc := 601) dL_law_601 rfl rfl ?_
    refine v_iload_n (i := 3) (pc := 602) dL_law_602 rfl rfl ?_
    refine v_iconst (pc := 603) (1:Int32) dL_law_603 rfl ?_
    refine v_iadd (pc := 604) dL_law_604 ?_
    refine v_sldB (pc := 605) hX dL_law_605 hf (fun i141 hf => ?_)
    refine v_aload_n (i := 0) (pc := 606) dL_law_606 rfl rfl ?_
    refine v_iload_n (i := 3) (pc := 607) dL_law_607 rfl rfl ?_
    refine v_iconst (pc := 608) (2:Int32) dL_law_608 rfl ?_
    refine v_iadd (pc := 609) dL_law_609 ?_
    refine v_sldB (pc := 610) hX dL_law_610 hf (fun i142 hf => ?_)
    refine v_aload_n (i := 0) (pc := 611) dL_law_611 rfl rfl ?_
    refine v_iload_n (i := 3) (pc := 612) dL_law_612 rfl rfl ?_
    refine v_iconst (pc := 613) (3:Int32) dL_law_613 rfl ?_
    refine v_iadd (pc := 614) dL_law_614 ?_
    refine v_sldB (pc := 615) hX dL_law_615 hf (fun i143 hf => ?_)
    obtain ⟨u147, cu147, hf⟩ := bnd hf
    obtain ⟨h144, i145, e146, hf⟩ := bndp hf
    refine v_M1 (pc := 616) (As := [.int i141, .int i142, .int i143]) (rest := [.int i140]) lmL_72 cu147 (sM_turn e146) ⟨Nat.le_of_ble_eq_true rfl, Nat.le_of_ble_eq_true rfl, (by show ce + 4 + 0 ≤ 600000; omega), (by show sl + 115 + 0 ≤ 7302250; omega)⟩ dL_law_616 rfl rfl (Nat.le_of_ble_eq_true rfl) ?_
    refine v_icmp_eq (pc := 619) (tgt := 1119) dL_law_619 rfl hf (fun hf => ?_) (fun hf => ?_)
    rotate_left
    · refine v_iconst (pc := 622) (0:Int32) dL_law_622 rfl ?_
      cases hf
    refine v_iinc (pc := 1119) (v := (x3 + (6:Int32))) (ls' := [some (.ref 0), some (.ref x1), some (.ref x2), some (.int (x3 + (6:Int32)))]) dL_law_1119 rfl rfl (by decide) rfl ?_
    refine v_goto (pc := 1122) (tgt := 28) dL_law_1122 rfl ?_
    refine v_widen (ce' := ce + 4) (sl' := sl + 115) (by show ce + 4 + 0 ≤ ce + 4; omega) (by show sl + 115 + 0 ≤ sl + 115; omega) ?_
    exact hk28 h144 x1 x2 (x3 + (6:Int32)) hf
  replace hf := if_f hf e340
  by_cases e341 : (i1 &&& (31:Int32)) = (11:Int32)
  · replace hf := if_t hf e341
    refine v_tswI (pc := 43) (tgt := 624) (off := 581) dL_law_43 (by rw [e341]; decide) (by rw [e341]; decide) (by rw [e341]; decide) rfl ?_
    refine v_aload_n (i := 1) (pc := 624) dL_law_624 rfl rfl ?_
    refine v_aload_n (i := 0) (pc := 625) dL_law_625 rfl rfl ?_
    refine v_iload_n (i := 3) (pc := 626) dL_law_626 rfl rfl ?_
    refine v_iconst (pc := 627) (1:Int32) dL_law_627 rfl ?_
    refine v_iadd (pc := 628) dL_law_628 ?_
    refine v_sldB (pc := 629) hX dL_law_629 hf (fun i150 hf => ?_)
    refine v_aload_n (i := 0) (pc := 630) dL_law_630 rfl rfl ?_
    refine v_iload_n (i := 3) (pc := 631) dL_law_631 rfl rfl ?_
    refine v_iconst (pc := 632) (2:Int32) dL_law_632 rfl ?_
    refine v_iadd (pc := 633) dL_law_633 ?_
    refine v_sldB (pc := 634) hX dL_law_634 hf (fun i151 hf => ?_)
    refine v_aload_n (i := 0) (pc := 635) dL_law_635 rfl rfl ?_
    refine v_iload_n (i := 3) (pc := 636) dL_law_636 rfl rfl ?_
    refine v_iconst (pc := 637) (3:Int32) dL_law_637 rfl ?_
    refine v_iadd (pc := 638) dL_law_638 ?_
    refine v_sldB (pc := 639) hX dL_law_639 hf (fun i152 hf => ?_)
    obtain ⟨u163, cu163, hf⟩ := bnd hf
    obtain ⟨h153, i154, e162, hf⟩ := bndp hf
    refine v_M1 (pc := 640) (As := [.int i150, .int i151, .int i152]) (rest := []) lmL_73 cu163 (sX_scale e162) ⟨Nat.le_of_ble_eq_true rfl, Nat.le_of_ble_eq_true rfl, (by show ce + 4 ≤ 600000; omega), (by show sl + 115 ≤ 7302250; omega)⟩ dL_law_640 rfl rfl (Nat.le_of_ble_eq_true rfl) ?_
    refine v_aload_n (i := 2) (pc := 643) dL_law_643 rfl rfl ?_
    refine v_aload_n (i := 0) (pc := 644) dL_law_644 rfl rfl ?_
    refine v_iload_n (i := 3) (pc := 645) dL_law_645 rfl rfl ?_
    refine v_iconst (pc := 646) (1:Int32) dL_law_646 rfl ?_
    refine v_iadd (pc := 647) dL_law_647 ?_
    refine v_sldB (pc := 648) hX dL_law_648 hf (fun i155 hf => ?_)
    refine v_aload_n (i := 0) (pc := 649) dL_law_649 rfl rfl ?_
    refine v_iload_n (i := 3) (pc := 650) dL_law_650 rfl rfl ?_
    refine v_iconst (pc := 651) (2:Int32) dL_law_651 rfl ?_
    refine v_iadd (pc := 652) dL_law_652 ?_
    refine v_sldB (pc := 653) hX dL_law_653 hf (fun i156 hf => ?_)
    refine v_aload_n (i := 0) (pc := 654) dL_law_654 rfl rfl ?_
    refine v_iload_n (i := 3) (pc := 655) dL_law_655 rfl rfl ?_
    refine v_iconst (pc := 656) (3:Int32) dL_law_656 rfl ?_
    refine v_iadd (pc := 657) dL_law_657 ?_
    refine v_sldB (pc := 658) hX dL_law_658 hf (fun i157 hf => ?_)
    obtain ⟨u161, cu161, hf⟩ := bnd hf
    obtain ⟨h158, i159, e160, hf⟩ := bndp hf
    refine v_M1 (pc := 659) (As := [.int i155, .int i156, .int i157]) (rest := [.int i154]) lmL_76 cu161 (sM_scale e160) ⟨Nat.le_of_ble_eq_true rfl, Nat.le_of_ble_eq_true rfl, (by show ce + 4 + 0 ≤ 600000; omega), (by show sl + 115 + 0 ≤ 7302250; omega)⟩ dL_law_659 rfl rfl (Nat.le_of_ble_eq_true rfl) ?_
    refine v_icmp_eq (pc := 662) (tgt := 1119) dL_law_662 rfl hf (fun hf => ?_) (fun hf => ?_)
    rotate_left
    · refine v_iconst (pc := 665) (0:Int32) dL_law_665 rfl ?_
      cases hf
    refine v_iinc (pc := 1119) (v := (x3 + (6:Int32))) (ls' := [some (.ref 0), some (.ref x1), some (.ref x2), some (.int (x3 + (6:Int32)))]) dL_law_1119 rfl rfl (by decide) rfl ?_
    refine v_goto (pc := 1122) (tgt := 28) dL_law_1122 rfl ?_
    refine v_widen (ce' := ce + 4) (sl' := sl + 115) (by show ce + 4 + 0 ≤ ce + 4; omega) (by show sl + 115 + 0 ≤ sl + 115; omega) ?_
    exact hk28 h158 x1 x2 (x3 + (6:Int32)) hf
  replace hf := if_f hf e341
  by_cases e342 : (i1 &&& (31:Int32)) = (12:Int32)
  · replace hf := if_t hf e342
    refine v_tswI (pc := 43) (tgt := 667) (off := 624) dL_law_43 (by rw [e342]; decide) (by rw [e342]; decide) (by rw [e342]; decide) rfl ?_
    refine v_aload_n (i := 1) (pc := 667) dL_law_667 rfl rfl ?_
    refine v_aload_n (i := 0) (pc := 668) dL_law_668 rfl rfl ?_
    refine v_iload_n (i := 3) (pc := 669) dL_law_669 rfl rfl ?_
    refine v_iconst (pc := 670) (1:Int32) dL_law_670 rfl ?_
    refine v_iadd (pc := 671) dL_law_671 ?_
    refine v_sldB (pc := 672) hX dL_law_672 hf (fun i164 hf => ?_)
    obtain ⟨u173, cu173, hf⟩ := bnd hf
    obtain ⟨h165, i166, e172, hf⟩ := bndp hf
    refine v_M1 (pc := 673) (As := [.int i164]) (rest := []) lmL_77 cu173 (sX_clear e172) ⟨Nat.le_of_ble_eq_true rfl, Nat.le_of_ble_eq_true rfl, (by show ce + 0 ≤ 600000; omega), (by show sl + 0 ≤ 7302250; omega)⟩ dL_law_673 rfl rfl (Nat.le_of_ble_eq_true rfl) ?_
    refine v_aload_n (i := 2) (pc := 676) dL_law_676 rfl rfl ?_
    refine v_aload_n (i := 0) (pc := 677) dL_law_677 rfl rfl ?_
    refine v_iload_n (i := 3) (pc := 678) dL_law_678 rfl rfl ?_
    refine v_iconst (pc := 679) (1:Int32) dL_law_679 rfl ?_
    refine v_iadd (pc := 680) dL_law_680 ?_
    refine v_sldB (pc := 681) hX dL_law_681 hf (fun i167 hf => ?_)
    obtain ⟨u171, cu171, hf⟩ := bnd hf
    obtain ⟨h168, i169, e170, hf⟩ := bndp hf
    refine v_M1 (pc := 682) (As := [.int i167]) (rest := [.int i166]) lmL_80 cu171 (sM_clear e170) ⟨Nat.le_of_ble_eq_true rfl, Nat.le_of_ble_eq_true rfl, (by show ce + 0 + 0 ≤ 600000; omega), (by show sl + 0 + 0 ≤ 7302250; omega)⟩ dL_law_682 rfl rfl (Nat.le_of_ble_eq_true rfl) ?_
    refine v_icmp_eq (pc := 685) (tgt := 1119) dL_law_685 rfl hf (fun hf => ?_) (fun hf => ?_)
    rotate_left
    · refine v_iconst (pc := 688) (0:Int32) dL_law_688 rfl ?_
      cases hf
    refine v_iinc (pc := 1119) (v := (x3 + (6:Int32))) (ls' := [some (.ref 0), some (.ref x1), some (.ref x2), some (.int (x3 + (6:Int32)))]) dL_law_1119 rfl rfl (by decide) rfl ?_
    refine v_goto (pc := 1122) (tgt := 28) dL_law_1122 rfl ?_
    refine v_widen (ce' := ce + 4) (sl' := sl + 115) (by show ce + 0 + 0 ≤ ce + 4; omega) (by show sl + 0 + 0 ≤ sl + 115; omega) ?_
    exact hk28 h168 x1 x2 (x3 + (6:Int32)) hf
  replace hf := if_f hf e342
  by_cases e343 : (i1 &&& (31:Int32)) = (13:Int32)
  · replace hf := if_t hf e343
    refine v_tswI (pc := 43) (tgt := 690) (off := 647) dL_law_43 (by rw [e343]; decide) (by rw [e343]; decide) (by rw [e343]; decide) rfl ?_
    refine v_aload_n (i := 1) (pc := 690) dL_law_690 rfl rfl ?_
    refine v_aload_n (i := 0) (pc := 691) dL_law_691 rfl rfl ?_
    refine v_iload_n (i := 3) (pc := 692) dL_law_692 rfl rfl ?_
    refine v_iconst (pc := 693) (1:Int32) dL_law_693 rfl ?_
    refine v_iadd (pc := 694) dL_law_694 ?_
    refine v_sldB (pc := 695) hX dL_law_695 hf (fun i174 hf => ?_)
    refine v_aload_n (i := 0) (pc := 696) dL_law_696 rfl rfl ?_
    refine v_iload_n (i := 3) (pc := 697) dL_law_697 rfl rfl ?_
    refine v_iconst (pc := 698) (2:Int32) dL_law_698 rfl ?_
    refine v_iadd (pc := 699) dL_law_699 ?_
    refine v_sldB (pc := 700) hX dL_law_700 hf (fun i175 hf => ?_)
    refine v_aload_n (i := 0) (pc := 701) dL_law_701 rfl rfl ?_
    refine v_iload_n (i := 3) (pc := 702) dL_law_702 rfl rfl ?_
    refine v_iconst (pc := 703) (3:Int32) dL_law_703 rfl ?_
    refine v_iadd (pc := 704) dL_law_704 ?_
    refine v_sldB (pc := 705) hX dL_law_705 hf (fun i176 hf => ?_)
    obtain ⟨u187, cu187, hf⟩ := bnd hf
    obtain ⟨h177, i178, e186, hf⟩ := bndp hf
    refine v_M1 (pc := 706) (As := [.int i174, .int i175, .int i176]) (rest := []) lmL_81 cu187 (sX_number e186) ⟨Nat.le_of_ble_eq_true rfl, Nat.le_of_ble_eq_true rfl, (by show ce + 0 ≤ 600000; omega), (by show sl + 0 ≤ 7302250; omega)⟩ dL_law_706 rfl rfl (Nat.le_of_ble_eq_true rfl) ?_
    refine v_aload_n (i := 2) (pc := 709) dL_law_709 rfl rfl ?_
    refine v_aload_n (i := 0) (pc := 710) dL_law_710 rfl rfl ?_
    refine v_iload_n (i := 3) (pc := 711) dL_law_711 rfl rfl ?_
    refine v_iconst (pc := 712) (1:Int32) dL_law_712 rfl ?_
    refine v_iadd (pc := 713) dL_law_713 ?_
    refine v_sldB (pc := 714) hX dL_law_714 hf (fun i179 hf => ?_)
    refine v_aload_n (i := 0) (pc := 715) dL_law_715 rfl rfl ?_
    refine v_iload_n (i := 3) (pc := 716) dL_law_716 rfl rfl ?_
    refine v_iconst (pc := 717) (2:Int32) dL_law_717 rfl ?_
    refine v_iadd (pc := 718) dL_law_718 ?_
    refine v_sldB (pc := 719) hX dL_law_719 hf (fun i180 hf => ?_)
    refine v_aload_n (i := 0) (pc := 720) dL_law_720 rfl rfl ?_
    refine v_iload_n (i := 3) (pc := 721) dL_law_721 rfl rfl ?_
    refine v_iconst (pc := 722) (3:Int32) dL_law_722 rfl ?_
    refine v_iadd (pc := 723) dL_law_723 ?_
    refine v_sldB (pc := 724) hX dL_law_724 hf (fun i181 hf => ?_)
    obtain ⟨u185, cu185, hf⟩ := bnd hf
    obtain ⟨h182, i183, e184, hf⟩ := bndp hf
    refine v_M1 (pc := 725) (As := [.int i179, .int i180, .int i181]) (rest := [.int i178]) lmL_84 cu185 (sM_number e184) ⟨Nat.le_of_ble_eq_true rfl, Nat.le_of_ble_eq_true rfl, (by show ce + 0 + 0 ≤ 600000; omega), (by show sl + 0 + 0 ≤ 7302250; omega)⟩ dL_law_725 rfl rfl (Nat.le_of_ble_eq_true rfl) ?_
    refine v_icmp_eq (pc := 728) (tgt := 1119) dL_law_728 rfl hf (fun hf => ?_) (fun hf => ?_)
    rotate_left
    · refine v_iconst (pc := 731) (0:Int32) dL_law_731 rfl ?_
      cases hf
    refine v_iinc (pc := 1119) (v := (x3 + (6:Int32))) (ls' := [some (.ref 0), some (.ref x1), some (.ref x2), some (.int (x3 + (6:Int32)))]) dL_law_1119 rfl rfl (by decide) rfl ?_
    refine v_goto (pc := 1122) (tgt := 28) dL_law_1122 rfl ?_
    refine v_widen (ce' := ce + 4) (sl' := sl + 115) (by show ce + 0 + 0 ≤ ce + 4; omega) (by show sl + 0 + 0 ≤ sl + 115; omega) ?_
    exact hk28 h182 x1 x2 (x3 + (6:Int32)) hf
  replace hf := if_f hf e343
  by_cases e344 : (i1 &&& (31:Int32)) = (14:Int32)
  · replace hf := if_t hf e344
    refine v_tswI (pc := 43) (tgt := 733) (off := 690) dL_law_43 (by rw [e344]; decide) (by rw [e344]; decide) (by rw [e344]; decide) rfl ?_
    refine v_aload_n (i := 1) (pc := 733) dL_law_733 rfl rfl ?_
    refine v_aload_n (i := 0) (pc := 734) dL_law_734 rfl rfl ?_
    refine v_iload_n (i := 3) (pc := 735) dL_law_735 rfl rfl ?_
    refine v_iconst (pc := 736) (1:Int32) dL_law_736 rfl ?_
    refine v_iadd (pc := 737) dL_law_737 ?_
    refine v_sldB (pc := 738) hX dL_law_738 hf (fun i188 hf => ?_)
    obtain ⟨u197, cu197, hf⟩ := bnd hf
    obtain ⟨h189, i190, e196, hf⟩ := bndp hf
    refine v_M1 (pc := 739) (As := [.int i188]) (rest := []) lmL_85 cu197 (sX_kind e196) ⟨Nat.le_of_ble_eq_true rfl, Nat.le_of_ble_eq_true rfl, (by show ce + 0 ≤ 600000; omega), (by show sl + 0 ≤ 7302250; omega)⟩ dL_law_739 rfl rfl (Nat.le_of_ble_eq_true rfl) ?_
    refine v_aload_n (i := 2) (pc := 742) dL_law_742 rfl rfl ?_
    refine v_aload_n (i := 0) (pc := 743) dL_law_743 rfl rfl ?_
    refine v_iload_n (i := 3) (pc := 744) dL_law_744 rfl rfl ?_
    refine v_iconst (pc := 745) (1:Int32) dL_law_745 rfl ?_
    refine v_iadd (pc := 746) dL_law_746 ?_
    refine v_sldB (pc := 747) hX dL_law_747 hf (fun i191 hf => ?_)
    obtain ⟨u195, cu195, hf⟩ := bnd hf
    obtain ⟨h192, i193, e194, hf⟩ := bndp hf
    refine v_M1 (pc := 748) (As := [.int i191]) (rest := [.int i190]) lmL_88 cu195 (sM_kind e194) ⟨Nat.le_of_ble_eq_true rfl, Nat.le_of_ble_eq_true rfl, (by show ce + 0 + 0 ≤ 600000; omega), (by show sl + 0 + 0 ≤ 7302250; omega)⟩ dL_law_748 rfl rfl (Nat.le_of_ble_eq_true rfl) ?_
    refine v_icmp_eq (pc := 751) (tgt := 1119) dL_law_751 rfl hf (fun hf => ?_) (fun hf => ?_)
    rotate_left
    · refine v_iconst (pc := 754) (0:Int32) dL_law_754 rfl ?_
      cases hf
    refine v_iinc (pc := 1119) (v := (x3 + (6:Int32))) (ls' := [some (.ref 0), some (.ref x1), some (.ref x2), some (.int (x3 + (6:Int32)))]) dL_law_1119 rfl rfl (by decide) rfl ?_
    refine v_goto (pc := 1122) (tgt := 28) dL_law_1122 rfl ?_
    refine v_widen (ce' := ce + 4) (sl' := sl + 115) (by show ce + 0 + 0 ≤ ce + 4; omega) (by show sl + 0 + 0 ≤ sl + 115; omega) ?_
    exact hk28 h192 x1 x2 (x3 + (6:Int32)) hf
  replace hf := if_f hf e344
  by_cases e345 : (i1 &&& (31:Int32)) = (15:Int32)
  · replace hf := if_t hf e345
    refine v_tswI (pc := 43) (tgt := 756) (off := 713) dL_law_43 (by rw [e345]; decide) (by rw [e345]; decide) (by rw [e345]; decide) rfl ?_
    refine v_aload_n (i := 1) (pc := 756) dL_law_756 rfl rfl ?_
    refine v_aload_n (i := 0) (pc := 757) dL_law_757 rfl rfl ?_
    refine v_iload_n (i := 3) (pc := 758) dL_law_758 rfl rfl ?_
    refine v_iconst (pc := 759) (1:Int32) dL_law_759 rfl ?_
    refine v_iadd (pc := 760) dL_law_760 ?_
    refine v_sldB (pc := 761) hX dL_law_761 hf (fun i198 hf => ?_)
    refine v_aload_n (i := 0) (pc := 762) dL_law_762 rfl rfl ?_
    refine v_iload_n (i := 3) (pc := 763) dL_law_763 rfl rfl ?_
    refine v_iconst (pc := 764) (2:Int32) dL_law_764 rfl ?_
    refine v_iadd (pc := 765) dL_law_765 ?_
    refine v_sldB (pc := 766) hX dL_law_766 hf (fun i199 hf => ?_)
    obtain ⟨u209, cu209, hf⟩ := bnd hf
    obtain ⟨h200, i201, e208, hf⟩ := bndp hf
    refine v_M1 (pc := 767) (As := [.int i198, .int i199]) (rest := []) lmL_89 cu209 (sX_is e208) ⟨Nat.le_of_ble_eq_true rfl, Nat.le_of_ble_eq_true rfl, (by show ce + 0 ≤ 600000; omega), (by show sl + 0 ≤ 7302250; omega)⟩ dL_law_767 rfl rfl (Nat.le_of_ble_eq_true rfl) ?_
    refine v_aload_n (i := 2) (pc := 770) dL_law_770 rfl rfl ?_
    refine v_aload_n (i := 0) (pc := 771) dL_law_771 rfl rfl ?_
    refine v_iload_n (i := 3) (pc := 772) dL_law_772 rfl rfl ?_
    refine v_iconst (pc := 773) (1:Int32) dL_law_773 rfl ?_
    refine v_iadd (pc := 774) dL_law_774 ?_
    refine v_sldB (pc := 775) hX dL_law_775 hf (fun i202 hf => ?_)
    refine v_aload_n (i := 0) (pc := 776) dL_law_776 rfl rfl ?_
    refine v_iload_n (i := 3) (pc := 777) dL_law_777 rfl rfl ?_
    refine v_iconst (pc := 778) (2:Int32) dL_law_778 rfl ?_
    refine v_iadd (pc := 779) dL_law_779 ?_
    refine v_sldB (pc := 780) hX dL_law_780 hf (fun i203 hf => ?_)
    obtain ⟨u207, cu207, hf⟩ := bnd hf
    obtain ⟨h204, i205, e206, hf⟩ := bndp hf
    refine v_M1 (pc := 781) (As := [.int i202, .int i203]) (rest := [.int i201]) lmL_92 cu207 (sM_is e206) ⟨Nat.le_of_ble_eq_true rfl, Nat.le_of_ble_eq_true rfl, (by show ce + 0 + 0 ≤ 600000; omega), (by show sl + 0 + 0 ≤ 7302250; omega)⟩ dL_law_781 rfl rfl (Nat.le_of_ble_eq_true rfl) ?_
    refine v_icmp_eq (pc := 784) (tgt := 1119) dL_law_784 rfl hf (fun hf => ?_) (fun hf => ?_)
    rotate_left
    · refine v_iconst (pc := 787) (0:Int32) dL_law_787 rfl ?_
      cases hf
    refine v_iinc (pc := 1119) (v := (x3 + (6:Int32))) (ls' := [some (.ref 0), some (.ref x1), some (.ref x2), some (.int (x3 + (6:Int32)))]) dL_law_1119 rfl rfl (by decide) rfl ?_
    refine v_goto (pc := 1122) (tgt := 28) dL_law_1122 rfl ?_
    refine v_widen (ce' := ce + 4) (sl' := sl + 115) (by show ce + 0 + 0 ≤ ce + 4; omega) (by show sl + 0 + 0 ≤ sl + 115; omega) ?_
    exact hk28 h204 x1 x2 (x3 + (6:Int32)) hf
  replace hf := if_f hf e345
  by_cases e346 : (i1 &&& (31:Int32)) = (16:Int32)
  · replace hf := if_t hf e346
    refine v_tswI (pc := 43) (tgt := 789) (off := 746) dL_law_43 (by rw [e346]; decide) (by rw [e346]; decide) (by rw [e346]; decide) rfl ?_
    refine v_aload_n (i := 1) (pc := 789) dL_law_789 rfl rfl ?_
    refine v_aload_n (i := 0) (pc := 790) dL_law_790 rfl rfl ?_
    refine v_iload_n (i := 3) (pc := 791) dL_law_791 rfl rfl ?_
    refine v_iconst (pc := 792) (1:Int32) dL_law_792 rfl ?_
    refine v_iadd (pc := 793) dL_law_793 ?_
    refine v_sldB (pc := 794) hX dL_law_794 hf (fun i210 hf => ?_)
    refine v_aload_n (i := 0) (pc := 795) dL_law_795 rfl rfl ?_
    refine v_iload_n (i := 3) (pc := 796) dL_law_796 rfl rfl ?_
    refine v_iconst (pc := 797) (2:Int32) dL_law_797 rfl ?_
    refine v_iadd (pc := 798) dL_law_798 ?_
    refine v_sldB (pc := 799) hX dL_law_799 hf (fun i211 hf => ?_)
    obtain ⟨u221, cu221, hf⟩ := bnd hf
    obtain ⟨h212, i213, e220, hf⟩ := bndp hf
    refine v_M1 (pc := 800) (As := [.int i210, .int i211]) (rest := []) lmL_93 cu221 (sX_as e220) ⟨Nat.le_of_ble_eq_true rfl, Nat.le_of_ble_eq_true rfl, (by show ce + 0 ≤ 600000; omega), (by show sl + 0 ≤ 7302250; omega)⟩ dL_law_800 rfl rfl (Nat.le_of_ble_eq_true rfl) ?_
    refine v_aload_n (i := 2) (pc := 803) dL_law_803 rfl rfl ?_
    refine v_aload_n (i := 0) (pc := 804) dL_law_804 rfl rfl ?_
    refine v_iload_n (i := 3) (pc := 805) dL_law_805 rfl rfl ?_
    refine v_iconst (pc := 806) (1:Int32) dL_law_806 rfl ?_
    refine v_iadd (pc := 807) dL_law_807 ?_
    refine v_sldB (pc := 808) hX dL_law_808 hf (fun i214 hf => ?_)
    refine v_aload_n (i := 0) (pc := 809) dL_law_809 rfl rfl ?_
    refine v_iload_n (i := 3) (pc := 810) dL_law_810 rfl rfl ?_
    refine v_iconst (pc := 811) (2:Int32) dL_law_811 rfl ?_
    refine v_iadd (pc := 812) dL_law_812 ?_
    refine v_sldB (pc := 813) hX dL_law_813 hf (fun i215 hf => ?_)
    obtain ⟨u219, cu219, hf⟩ := bnd hf
    obtain ⟨h216, i217, e218, hf⟩ := bndp hf
    refine v_M1 (pc := 814) (As := [.int i214, .int i215]) (rest := [.int i213]) lmL_96 cu219 (sM_as e218) ⟨Nat.le_of_ble_eq_true rfl, Nat.le_of_ble_eq_true rfl, (by show ce + 0 + 0 ≤ 600000; omega), (by show sl + 0 + 0 ≤ 7302250; omega)⟩ dL_law_814 rfl rfl (Nat.le_of_ble_eq_true rfl) ?_
    refine v_icmp_eq (pc := 817) (tgt := 1119) dL_law_817 rfl hf (fun hf => ?_) (fun hf => ?_)
    rotate_left
    · refine v_iconst (pc := 820) (0:Int32) dL_law_820 rfl ?_
      cases hf
    refine v_iinc (pc := 1119) (v := (x3 + (6:Int32))) (ls' := [some (.ref 0), some (.ref x1), some (.ref x2), some (.int (x3 + (6:Int32)))]) dL_law_1119 rfl rfl (by decide) rfl ?_
    refine v_goto (pc := 1122) (tgt := 28) dL_law_1122 rfl ?_
    refine v_widen (ce' := ce + 4) (sl' := sl + 115) (by show ce + 0 + 0 ≤ ce + 4; omega) (by show sl + 0 + 0 ≤ sl + 115; omega) ?_
    exact hk28 h216 x1 x2 (x3 + (6:Int32)) hf
  replace hf := if_f hf e346
  by_cases e347 : (i1 &&& (31:Int32)) = (17:Int32)
  · replace hf := if_t hf e347
    refine v_tswI (pc := 43) (tgt := 822) (off := 779) dL_law_43 (by rw [e347]; decide) (by rw [e347]; decide) (by rw [e347]; decide) rfl ?_
    refine v_aload_n (i := 1) (pc := 822) dL_law_822 rfl rfl ?_
    refine v_aload_n (i := 0) (pc := 823) dL_law_823 rfl rfl ?_
    refine v_iload_n (i := 3) (pc := 824) dL_law_824 rfl rfl ?_
    refine v_iconst (pc := 825) (1:Int32) dL_law_825 rfl ?_
    refine v_iadd (pc := 826) dL_law_826 ?_
    refine v_sldB (pc := 827) hX dL_law_827 hf (fun i222 hf => ?_)
    refine v_aload_n (i := 0) (pc := 828) dL_law_828 rfl rfl ?_
    refine v_iload_n (i := 3) (pc := 829) dL_law_829 rfl rfl ?_
    refine v_iconst (pc := 830) (2:Int32) dL_law_830 rfl ?_
    refine v_iadd (pc := 831) dL_law_831 ?_
    refine v_sldB (pc := 832) hX dL_law_832 hf (fun i223 hf => ?_)
    obtain ⟨u233, cu233, hf⟩ := bnd hf
    obtain ⟨h224, i225, e232, hf⟩ := bndp hf
    refine v_M1 (pc := 833) (As := [.int i222, .int i223]) (rest := []) lmL_97 cu233 (sX_ask e232) ⟨Nat.le_of_ble_eq_true rfl, Nat.le_of_ble_eq_true rfl, (by show ce + 0 ≤ 600000; omega), (by show sl + 0 ≤ 7302250; omega)⟩ dL_law_833 rfl rfl (Nat.le_of_ble_eq_true rfl) ?_
    refine v_aload_n (i := 2) (pc := 836) dL_law_836 rfl rfl ?_
    refine v_aload_n (i := 0) (pc := 837) dL_law_837 rfl rfl ?_
    refine v_iload_n (i := 3) (pc := 838) dL_law_838 rfl rfl ?_
    refine v_iconst (pc := 839) (1:Int32) dL_law_839 rfl ?_
    refine v_iadd (pc := 840) dL_law_840 ?_
    refine v_sldB (pc := 841) hX dL_law_841 hf (fun i226 hf => ?_)
    refine v_aload_n (i := 0) (pc := 842) dL_law_842 rfl rfl ?_
    refine v_iload_n (i := 3) (pc := 843) dL_law_843 rfl rfl ?_
    refine v_iconst (pc := 844) (2:Int32) dL_law_844 rfl ?_
    refine v_iadd (pc := 845) dL_law_845 ?_
    refine v_sldB (pc := 846) hX dL_law_846 hf (fun i227 hf => ?_)
    obtain ⟨u231, cu231, hf⟩ := bnd hf
    obtain ⟨h228, i229, e230, hf⟩ := bndp hf
    refine v_M1 (pc := 847) (As := [.int i226, .int i227]) (rest := [.int i225]) lmL_100 cu231 (sM_ask e230) ⟨Nat.le_of_ble_eq_true rfl, Nat.le_of_ble_eq_true rfl, (by show ce + 0 + 0 ≤ 600000; omega), (by show sl + 0 + 0 ≤ 7302250; omega)⟩ dL_law_847 rfl rfl (Nat.le_of_ble_eq_true rfl) ?_
    refine v_icmp_eq (pc := 850) (tgt := 1119) dL_law_850 rfl hf (fun hf => ?_) (fun hf => ?_)
    rotate_left
    · refine v_iconst (pc := 853) (0:Int32) dL_law_853 rfl ?_
      cases hf
    refine v_iinc (pc := 1119) (v := (x3 + (6:Int32))) (ls' := [some (.ref 0), some (.ref x1), some (.ref x2), some (.int (x3 + (6:Int32)))]) dL_law_1119 rfl rfl (by decide) rfl ?_
    refine v_goto (pc := 1122) (tgt := 28) dL_law_1122 rfl ?_
    refine v_widen (ce' := ce + 4) (sl' := sl + 115) (by show ce + 0 + 0 ≤ ce + 4; omega) (by show sl + 0 + 0 ≤ sl + 115; omega) ?_
    exact hk28 h228 x1 x2 (x3 + (6:Int32)) hf
  replace hf := if_f hf e347
  by_cases e348 : (i1 &&& (31:Int32)) = (18:Int32)
  · replace hf := if_t hf e348
    refine v_tswI (pc := 43) (tgt := 855) (off := 812) dL_law_43 (by rw [e348]; decide) (by rw [e348]; decide) (by rw [e348]; decide) rfl ?_
    refine v_aload_n (i := 1) (pc := 855) dL_law_855 rfl rfl ?_
    refine v_aload_n (i := 0) (pc := 856) dL_law_856 rfl rfl ?_
    refine v_iload_n (i := 3) (pc := 857) dL_law_857 rfl rfl ?_
    refine v_iconst (pc := 858) (1:Int32) dL_law_858 rfl ?_
    refine v_iadd (pc := 859) dL_law_859 ?_
    refine v_sldB (pc := 860) hX dL_law_860 hf (fun i234 hf => ?_)
    obtain ⟨u243, cu243, hf⟩ := bnd hf
    obtain ⟨h235, i236, e242, hf⟩ := bndp hf
    refine v_M1 (pc := 861) (As := [.int i234]) (rest := []) lmL_101 cu243 (sX_trace e242) ⟨Nat.le_of_ble_eq_true rfl, Nat.le_of_ble_eq_true rfl, (by show ce + 0 ≤ 600000; omega), (by show sl + 0 ≤ 7302250; omega)⟩ dL_law_861 rfl rfl (Nat.le_of_ble_eq_true rfl) ?_
    refine v_aload_n (i := 2) (pc := 864) dL_law_864 rfl rfl ?_
    refine v_aload_n (i := 0) (pc := 865) dL_law_865 rfl rfl ?_
    refine v_iload_n (i := 3) (pc := 866) dL_law_866 rfl rfl ?_
    refine v_iconst (pc := 867) (1:Int32) dL_law_867 rfl ?_
    refine v_iadd (pc := 868) dL_law_868 ?_
    refine v_sldB (pc := 869) hX dL_law_869 hf (fun i237 hf => ?_)
    obtain ⟨u241, cu241, hf⟩ := bnd hf
    obtain ⟨h238, i239, e240, hf⟩ := bndp hf
    refine v_M1 (pc := 870) (As := [.int i237]) (rest := [.int i236]) lmL_104 cu241 (sM_trace e240) ⟨Nat.le_of_ble_eq_true rfl, Nat.le_of_ble_eq_true rfl, (by show ce + 0 + 0 ≤ 600000; omega), (by show sl + 0 + 0 ≤ 7302250; omega)⟩ dL_law_870 rfl rfl (Nat.le_of_ble_eq_true rfl) ?_
    refine v_icmp_eq (pc := 873) (tgt := 1119) dL_law_873 rfl hf (fun hf => ?_) (fun hf => ?_)
    rotate_left
    · refine v_iconst (pc := 876) (0:Int32) dL_law_876 rfl ?_
      cases hf
    refine v_iinc (pc := 1119) (v := (x3 + (6:Int32))) (ls' := [some (.ref 0), some (.ref x1), some (.ref x2), some (.int (x3 + (6:Int32)))]) dL_law_1119 rfl rfl (by decide) rfl ?_
    refine v_goto (pc := 1122) (tgt := 28) dL_law_1122 rfl ?_
    refine v_widen (ce' := ce + 4) (sl' := sl + 115) (by show ce + 0 + 0 ≤ ce + 4; omega) (by show sl + 0 + 0 ≤ sl + 115; omega) ?_
    exact hk28 h238 x1 x2 (x3 + (6:Int32)) hf
  replace hf := if_f hf e348
  by_cases e349 : (i1 &&& (31:Int32)) = (19:Int32)
  · replace hf := if_t hf e349
    refine v_tswI (pc := 43) (tgt := 878) (off := 835) dL_law_43 (by rw [e349]; decide) (by rw [e349]; decide) (by rw [e349]; decide) rfl ?_
    refine v_aload_n (i := 1) (pc := 878) dL_law_878 rfl rfl ?_
    refine v_aload_n (i := 0) (pc := 879) dL_law_879 rfl rfl ?_
    refine v_iload_n (i := 3) (pc := 880) dL_law_880 rfl rfl ?_
    refine v_iconst (pc := 881) (1:Int32) dL_law_881 rfl ?_
    refine v_iadd (pc := 882) dL_law_882 ?_
    refine v_sldB (pc := 883) hX dL_law_883 hf (fun i244 hf => ?_)
    refine v_aload_n (i := 0) (pc := 884) dL_law_884 rfl rfl ?_
    refine v_iload_n (i := 3) (pc := 885) dL_law_885 rfl rfl ?_
    refine v_iconst (pc := 886) (2:Int32) dL_law_886 rfl ?_
    refine v_iadd (pc := 887) dL_law_887 ?_
    refine v_sldB (pc := 888) hX dL_law_888 hf (fun i245 hf => ?_)
    obtain ⟨u255, cu255, hf⟩ := bnd hf
    obtain ⟨h246, i247, e254, hf⟩ := bndp hf
    refine v_M1 (pc := 889) (As := [.int i244, .int i245]) (rest := []) lmL_105 cu255 (sX_weight e254) ⟨Nat.le_of_ble_eq_true rfl, Nat.le_of_ble_eq_true rfl, (by show ce + 0 ≤ 600000; omega), (by show sl + 0 ≤ 7302250; omega)⟩ dL_law_889 rfl rfl (Nat.le_of_ble_eq_true rfl) ?_
    refine v_aload_n (i := 2) (pc := 892) dL_law_892 rfl rfl ?_
    refine v_aload_n (i := 0) (pc := 893) dL_law_893 rfl rfl ?_
    refine v_iload_n (i := 3) (pc := 894) dL_law_894 rfl rfl ?_
    refine v_iconst (pc := 895) (1:Int32) dL_law_895 rfl ?_
    refine v_iadd (pc := 896) dL_law_896 ?_
    refine v_sldB (pc := 897) hX dL_law_897 hf (fun i248 hf => ?_)
    refine v_aload_n (i := 0) (pc := 898) dL_law_898 rfl rfl ?_
    refine v_iload_n (i := 3) (pc := 899) dL_law_899 rfl rfl ?_
    refine v_iconst (pc := 900) (2:Int32) dL_law_900 rfl ?_
    refine v_iadd (pc := 901) dL_law_901 ?_
    refine v_sldB (pc := 902) hX dL_law_902 hf (fun i249 hf => ?_)
    obtain ⟨u253, cu253, hf⟩ := bnd hf
    obtain ⟨h250, i251, e252, hf⟩ := bndp hf
    refine v_M1 (pc := 903) (As := [.int i248, .int i249]) (rest := [.int i247]) lmL_108 cu253 (sM_weight e252) ⟨Nat.le_of_ble_eq_true rfl, Nat.le_of_ble_eq_true rfl, (by show ce + 0 + 0 ≤ 600000; omega), (by show sl + 0 + 0 ≤ 7302250; omega)⟩ dL_law_903 rfl rfl (Nat.le_of_ble_eq_true rfl) ?_
    refine v_icmp_eq (pc := 906) (tgt := 1119) dL_law_906 rfl hf (fun hf => ?_) (fun hf => ?_)
    rotate_left
    · refine v_iconst (pc := 909) (0:Int32) dL_law_909 rfl ?_
      cases hf
    refine v_iinc (pc := 1119) (v := (x3 + (6:Int32))) (ls' := [some (.ref 0), some (.ref x1), some (.ref x2), some (.int (x3 + (6:Int32)))]) dL_law_1119 rfl rfl (by decide) rfl ?_
    refine v_goto (pc := 1122) (tgt := 28) dL_law_1122 rfl ?_
    refine v_widen (ce' := ce + 4) (sl' := sl + 115) (by show ce + 0 + 0 ≤ ce + 4; omega) (by show sl + 0 + 0 ≤ sl + 115; omega) ?_
    exact hk28 h250 x1 x2 (x3 + (6:Int32)) hf
  replace hf := if_f hf e349
  by_cases e350 : (i1 &&& (31:Int32)) = (20:Int32)
  · replace hf := if_t hf e350
    refine v_tswI (pc := 43) (tgt := 911) (off := 868) dL_law_43 (by rw [e350]; decide) (by rw [e350]; decide) (by rw [e350]; decide) rfl ?_
    refine v_aload_n (i := 1) (pc := 911) dL_law_911 rfl rfl ?_
    refine v_aload_n (i := 0) (pc := 912) dL_law_912 rfl rfl ?_
    refine v_iload_n (i := 3) (pc := 913) dL_law_913 rfl rfl ?_
    refine v_iconst (pc := 914) (1:Int32) dL_law_914 rfl ?_
    refine v_iadd (pc := 915) dL_law_915 ?_
    refine v_sldB (pc := 916) hX dL_law_916 hf (fun i256 hf => ?_)
    refine v_aload_n (i := 0) (pc := 917) dL_law_917 rfl rfl ?_
    refine v_iload_n (i := 3) (pc := 918) dL_law_918 rfl rfl ?_
    refine v_iconst (pc := 919) (2:Int32) dL_law_919 rfl ?_
    refine v_iadd (pc := 920) dL_law_920 ?_
    refine v_sldB (pc := 921) hX dL_law_921 hf (fun i257 hf => ?_)
    obtain ⟨u267, cu267, hf⟩ := bnd hf
    obtain ⟨h258, i259, e266, hf⟩ := bndp hf
    refine v_M1 (pc := 922) (As := [.int i256, .int i257]) (rest := []) lmL_109 cu267 (sX_order e266) ⟨Nat.le_of_ble_eq_true rfl, Nat.le_of_ble_eq_true rfl, (by show ce + 0 ≤ 600000; omega), (by show sl + 0 ≤ 7302250; omega)⟩ dL_law_922 rfl rfl (Nat.le_of_ble_eq_true rfl) ?_
    refine v_aload_n (i := 2) (pc := 925) dL_law_925 rfl rfl ?_
    refine v_aload_n (i := 0) (pc := 926) dL_law_926 rfl rfl ?_
    refine v_iload_n (i := 3) (pc := 927) dL_law_927 rfl rfl ?_
    refine v_iconst (pc := 928) (1:Int32) dL_law_928 rfl ?_
    refine v_iadd (pc := 929) dL_law_929 ?_
    refine v_sldB (pc := 930) hX dL_law_930 hf (fun i260 hf => ?_)
    refine v_aload_n (i := 0) (pc := 931) dL_law_931 rfl rfl ?_
    refine v_iload_n (i := 3) (pc := 932) dL_law_932 rfl rfl ?_
    refine v_iconst (pc := 933) (2:Int32) dL_law_933 rfl ?_
    refine v_iadd (pc := 934) dL_law_934 ?_
    refine v_sldB (pc := 935) hX dL_law_935 hf (fun i261 hf => ?_)
    obtain ⟨u265, cu265, hf⟩ := bnd hf
    obtain ⟨h262, i263, e264, hf⟩ := bndp hf
    refine v_M1 (pc := 936) (As := [.int i260, .int i261]) (rest := [.int i259]) lmL_112 cu265 (sM_order e264) ⟨Nat.le_of_ble_eq_true rfl, Nat.le_of_ble_eq_true rfl, (by show ce + 0 + 0 ≤ 600000; omega), (by show sl + 0 + 0 ≤ 7302250; omega)⟩ dL_law_936 rfl rfl (Nat.le_of_ble_eq_true rfl) ?_
    refine v_icmp_eq (pc := 939) (tgt := 1119) dL_law_939 rfl hf (fun hf => ?_) (fun hf => ?_)
    rotate_left
    · refine v_iconst (pc := 942) (0:Int32) dL_law_942 rfl ?_
      cases hf
    refine v_iinc (pc := 1119) (v := (x3 + (6:Int32))) (ls' := [some (.ref 0), some (.ref x1), some (.ref x2), some (.int (x3 + (6:Int32)))]) dL_law_1119 rfl rfl (by decide) rfl ?_
    refine v_goto (pc := 1122) (tgt := 28) dL_law_1122 rfl ?_
    refine v_widen (ce' := ce + 4) (sl' := sl + 115) (by show ce + 0 + 0 ≤ ce + 4; omega) (by show sl + 0 + 0 ≤ sl + 115; omega) ?_
    exact hk28 h262 x1 x2 (x3 + (6:Int32)) hf
  replace hf := if_f hf e350
  by_cases e351 : (i1 &&& (31:Int32)) = (21:Int32)
  · replace hf := if_t hf e351
    refine v_tswI (pc := 43) (tgt := 944) (off := 901) dL_law_43 (by rw [e351]; decide) (by rw [e351]; decide) (by rw [e351]; decide) rfl ?_
    refine v_aload_n (i := 1) (pc := 944) dL_law_944 rfl rfl ?_
    refine v_aload_n (i := 0) (pc := 945) dL_law_945 rfl rfl ?_
    refine v_iload_n (i := 3) (pc := 946) dL_law_946 rfl rfl ?_
    refine v_iconst (pc := 947) (1:Int32) dL_law_947 rfl ?_
    refine v_iadd (pc := 948) dL_law_948 ?_
    refine v_sldB (pc := 949) hX dL_law_949 hf (fun i268 hf => ?_)
    refine v_aload_n (i := 0) (pc := 950) dL_law_950 rfl rfl ?_
    refine v_iload_n (i := 3) (pc := 951) dL_law_951 rfl rfl ?_
    refine v_iconst (pc := 952) (2:Int32) dL_law_952 rfl ?_
    refine v_iadd (pc := 953) dL_law_953 ?_
    refine v_sldB (pc := 954) hX dL_law_954 hf (fun i269 hf => ?_)
    refine v_aload_n (i := 0) (pc := 955) dL_law_955 rfl rfl ?_
    refine v_iload_n (i := 3) (pc := 956) dL_law_956 rfl rfl ?_
    refine v_iconst (pc := 957) (3:Int32) dL_law_957 rfl ?_
    refine v_iadd (pc := 958) dL_law_958 ?_
    refine v_sldB (pc := 959) hX dL_law_959 hf (fun i270 hf => ?_)
    obtain ⟨u281, cu281, hf⟩ := bnd hf
    obtain ⟨h271, i272, e280, hf⟩ := bndp hf
    refine v_M1 (pc := 960) (As := [.int i268, .int i269, .int i270]) (rest := []) lmL_113 cu281 (sX_share e280) ⟨Nat.le_of_ble_eq_true rfl, Nat.le_of_ble_eq_true rfl, (by show ce + 2 ≤ 600000; omega), (by show sl + 74 ≤ 7302250; omega)⟩ dL_law_960 rfl rfl (Nat.le_of_ble_eq_true rfl) ?_
    refine v_aload_n (i := 2) (pc := 963) dL_law_963 rfl rfl ?_
    refine v_aload_n (i := 0) (pc := 964) dL_law_964 rfl rfl ?_
    refine v_iload_n (i := 3) (pc := 965) dL_law_965 rfl rfl ?_
    refine v_iconst (pc := 966) (1:Int32) dL_law_966 rfl ?_
    refine v_iadd (pc := 967) dL_law_967 ?_
    refine v_sldB (pc := 968) hX dL_law_968 hf (fun i273 hf => ?_)
    refine v_aload_n (i := 0) (pc := 969) dL_law_969 rfl rfl ?_
    refine v_iload_n (i := 3) (pc := 970) dL_law_970 rfl rfl ?_
    refine v_iconst (pc := 971) (2:Int32) dL_law_971 rfl ?_
    refine v_iadd (pc := 972) dL_law_972 ?_
    refine v_sldB (pc := 973) hX dL_law_973 hf (fun i274 hf => ?_)
    refine v_aload_n (i := 0) (pc := 974) dL_law_974 rfl rfl ?_
    refine v_iload_n (i := 3) (pc := 975) dL_law_975 rfl rfl ?_
    refine v_iconst (pc := 976) (3:Int32) dL_law_976 rfl ?_
    refine v_iadd (pc := 977) dL_law_977 ?_
    refine v_sldB (pc := 978) hX dL_law_978 hf (fun i275 hf => ?_)
    obtain ⟨u279, cu279, hf⟩ := bnd hf
    obtain ⟨h276, i277, e278, hf⟩ := bndp hf
    refine v_M1 (pc := 979) (As := [.int i273, .int i274, .int i275]) (rest := [.int i272]) lmL_116 cu279 (sM_share e278) ⟨Nat.le_of_ble_eq_true rfl, Nat.le_of_ble_eq_true rfl, (by show ce + 2 + 0 ≤ 600000; omega), (by show sl + 74 + 0 ≤ 7302250; omega)⟩ dL_law_979 rfl rfl (Nat.le_of_ble_eq_true rfl) ?_
    refine v_icmp_eq (pc := 982) (tgt := 1119) dL_law_982 rfl hf (fun hf => ?_) (fun hf => ?_)
    rotate_left
    · refine v_iconst (pc := 985) (0:Int32) dL_law_985 rfl ?_
      cases hf
    refine v_iinc (pc := 1119) (v := (x3 + (6:Int32))) (ls' := [some (.ref 0), some (.ref x1), some (.ref x2), some (.int (x3 + (6:Int32)))]) dL_law_1119 rfl rfl (by decide) rfl ?_
    refine v_goto (pc := 1122) (tgt := 28) dL_law_1122 rfl ?_
    refine v_widen (ce' := ce + 4) (sl' := sl + 115) (by show ce + 2 + 0 ≤ ce + 4; omega) (by show sl + 74 + 0 ≤ sl + 115; omega) ?_
    exact hk28 h276 x1 x2 (x3 + (6:Int32)) hf
  replace hf := if_f hf e351
  by_cases e352 : (i1 &&& (31:Int32)) = (22:Int32)
  · replace hf := if_t hf e352
    refine v_tswI (pc := 43) (tgt := 987) (off := 944) dL_law_43 (by rw [e352]; decide) (by rw [e352]; decide) (by rw [e352]; decide) rfl ?_
    refine v_aload_n (i := 1) (pc := 987) dL_law_987 rfl rfl ?_
    refine v_aload_n (i := 0) (pc := 988) dL_law_988 rfl rfl ?_
    refine v_iload_n (i := 3) (pc := 989) dL_law_989 rfl rfl ?_
    refine v_iconst (pc := 990) (1:Int32) dL_law_990 rfl ?_
    refine v_iadd (pc := 991) dL_law_991 ?_
    refine v_sldB (pc := 992) hX dL_law_992 hf (fun i282 hf => ?_)
    refine v_aload_n (i := 0) (pc := 993) dL_law_993 rfl rfl ?_
    refine v_iload_n (i := 3) (pc := 994) dL_law_994 rfl rfl ?_
    refine v_iconst (pc := 995) (2:Int32) dL_law_995 rfl ?_
    refine v_iadd (pc := 996) dL_law_996 ?_
    refine v_sldB (pc := 997) hX dL_law_997 hf (fun i283 hf => ?_)
    refine v_aload_n (i := 0) (pc := 998) dL_law_998 rfl rfl ?_
    refine v_iload_n (i := 3) (pc := 999) dL_law_999 rfl rfl ?_
    refine v_iconst (pc := 1000) (3:Int32) dL_law_1000 rfl ?_
    refine v_iadd (pc := 1001) dL_law_1001 ?_
    refine v_sldB (pc := 1002) hX dL_law_1002 hf (fun i284 hf => ?_)
    refine v_aload_n (i := 0) (pc := 1003) dL_law_1003 rfl rfl ?_
    refine v_iload_n (i := 3) (pc := 1004) dL_law_1004 rfl rfl ?_
    refine v_iconst (pc := 1005) (4:Int32) dL_law_1005 rfl ?_
    refine v_iadd (pc := 1006) dL_law_1006 ?_
    refine v_sldB (pc := 1007) hX dL_law_1007 hf (fun i285 hf => ?_)
    obtain ⟨u297, cu297, hf⟩ := bnd hf
    obtain ⟨h286, i287, e296, hf⟩ := bndp hf
    refine v_M1 (pc := 1008) (As := [.int i282, .int i283, .int i284, .int i285]) (rest := []) lmL_117 cu297 (sX_ride e296) ⟨Nat.le_of_ble_eq_true rfl, Nat.le_of_ble_eq_true rfl, (by show ce + 0 ≤ 600000; omega), (by show sl + 0 ≤ 7302250; omega)⟩ dL_law_1008 rfl rfl (Nat.le_of_ble_eq_true rfl) ?_
    refine v_aload_n (i := 2) (pc := 1011) dL_law_1011 rfl rfl ?_
    refine v_aload_n (i := 0) (pc := 1012) dL_law_1012 rfl rfl ?_
    refine v_iload_n (i := 3) (pc := 1013) dL_law_1013 rfl rfl ?_
    refine v_iconst (pc := 1014) (1:Int32) dL_law_1014 rfl ?_
    refine v_iadd (pc := 1015) dL_law_1015 ?_
    refine v_sldB (pc := 1016) hX dL_law_1016 hf (fun i288 hf => ?_)
    refine v_aload_n (i := 0) (pc := 1017) dL_law_1017 rfl rfl ?_
    refine v_iload_n (i := 3) (pc := 1018) dL_law_1018 rfl rfl ?_
    refine v_iconst (pc := 1019) (2:Int32) dL_law_1019 rfl ?_
    refine v_iadd (pc := 1020) dL_law_1020 ?_
    refine v_sldB (pc := 1021) hX dL_law_1021 hf (fun i289 hf => ?_)
    refine v_aload_n (i := 0) (pc := 1022) dL_law_1022 rfl rfl ?_
    refine v_iload_n (i := 3) (pc := 1023) dL_law_1023 rfl rfl ?_
    refine v_iconst (pc := 1024) (3:Int32) dL_law_1024 rfl ?_
    refine v_iadd (pc := 1025) dL_law_1025 ?_
    refine v_sldB (pc := 1026) hX dL_law_1026 hf (fun i290 hf => ?_)
    refine v_aload_n (i := 0) (pc := 1027) dL_law_1027 rfl rfl ?_
    refine v_iload_n (i := 3) (pc := 1028) dL_law_1028 rfl rfl ?_
    refine v_iconst (pc := 1029) (4:Int32) dL_law_1029 rfl ?_
    refine v_iadd (pc := 1030) dL_law_1030 ?_
    refine v_sldB (pc := 1031) hX dL_law_1031 hf (fun i291 hf => ?_)
    obtain ⟨u295, cu295, hf⟩ := bnd hf
    obtain ⟨h292, i293, e294, hf⟩ := bndp hf
    refine v_M1 (pc := 1032) (As := [.int i288, .int i289, .int i290, .int i291]) (rest := [.int i287]) lmL_120 cu295 (sM_ride e294) ⟨Nat.le_of_ble_eq_true rfl, Nat.le_of_ble_eq_true rfl, (by show ce + 0 + 0 ≤ 600000; omega), (by show sl + 0 + 0 ≤ 7302250; omega)⟩ dL_law_1032 rfl rfl (Nat.le_of_ble_eq_true rfl) ?_
    refine v_icmp_eq (pc := 1035) (tgt := 1119) dL_law_1035 rfl hf (fun hf => ?_) (fun hf => ?_)
    rotate_left
    · refine v_iconst (pc := 1038) (0:Int32) dL_law_1038 rfl ?_
      cases hf
    refine v_iinc (pc := 1119) (v := (x3 + (6:Int32))) (ls' := [some (.ref 0), some (.ref x1), some (.ref x2), some (.int (x3 + (6:Int32)))]) dL_law_1119 rfl rfl (by decide) rfl ?_
    refine v_goto (pc := 1122) (tgt := 28) dL_law_1122 rfl ?_
    refine v_widen (ce' := ce + 4) (sl' := sl + 115) (by show ce + 0 + 0 ≤ ce + 4; omega) (by show sl + 0 + 0 ≤ sl + 115; omega) ?_
    exact hk28 h292 x1 x2 (x3 + (6:Int32)) hf
  replace hf := if_f hf e352
  by_cases e353 : (i1 &&& (31:Int32)) = (23:Int32)
  · replace hf := if_t hf e353
    refine v_tswI (pc := 43) (tgt := 1040) (off := 997) dL_law_43 (by rw [e353]; decide) (by rw [e353]; decide) (by rw [e353]; decide) rfl ?_
    refine v_aload_n (i := 1) (pc := 1040) dL_law_1040 rfl rfl ?_
    refine v_aload_n (i := 0) (pc := 1041) dL_law_1041 rfl rfl ?_
    refine v_iload_n (i := 3) (pc := 1042) dL_law_1042 rfl rfl ?_
    refine v_iconst (pc := 1043) (1:Int32) dL_law_1043 rfl ?_
    refine v_iadd (pc := 1044) dL_law_1044 ?_
    refine v_sldB (pc := 1045) hX dL_law_1045 hf (fun i298 hf => ?_)
    refine v_aload_n (i := 0) (pc := 1046) dL_law_1046 rfl rfl ?_
    refine v_iload_n (i := 3) (pc := 1047) dL_law_1047 rfl rfl ?_
    refine v_iconst (pc := 1048) (2:Int32) dL_law_1048 rfl ?_
    refine v_iadd (pc := 1049) dL_law_1049 ?_
    refine v_sldB (pc := 1050) hX dL_law_1050 hf (fun i299 hf => ?_)
    refine v_aload_n (i := 0) (pc := 1051) dL_law_1051 rfl rfl ?_
    refine v_iload_n (i := 3) (pc := 1052) dL_law_1052 rfl rfl ?_
    refine v_iconst (pc := 1053) (3:Int32) dL_law_1053 rfl ?_
    refine v_iadd (pc := 1054) dL_law_1054 ?_
    refine v_sldB (pc := 1055) hX dL_law_1055 hf (fun i300 hf => ?_)
    obtain ⟨u311, cu311, hf⟩ := bnd hf
    obtain ⟨h301, i302, e310, hf⟩ := bndp hf
    refine v_M1 (pc := 1056) (As := [.int i298, .int i299, .int i300]) (rest := []) lmL_121 cu311 (sX_alike e310) ⟨Nat.le_of_ble_eq_true rfl, Nat.le_of_ble_eq_true rfl, (by show ce + 0 ≤ 600000; omega), (by show sl + 0 ≤ 7302250; omega)⟩ dL_law_1056 rfl rfl (Nat.le_of_ble_eq_true rfl) ?_
    refine v_aload_n (i := 2) (pc := 1059) dL_law_1059 rfl rfl ?_
    refine v_aload_n (i := 0) (pc := 1060) dL_law_1060 rfl rfl ?_
    refine v_iload_n (i := 3) (pc := 1061) dL_law_1061 rfl rfl ?_
    refine v_iconst (pc := 1062) (1:Int32) dL_law_1062 rfl ?_
    refine v_iadd (pc := 1063) dL_law_1063 ?_
    refine v_sldB (pc := 1064) hX dL_law_1064 hf (fun i303 hf => ?_)
    refine v_aload_n (i := 0) (pc := 1065) dL_law_1065 rfl rfl ?_
    refine v_iload_n (i := 3) (pc := 1066) dL_law_1066 rfl rfl ?_
    refine v_iconst (pc := 1067) (2:Int32) dL_law_1067 rfl ?_
    refine v_iadd (pc := 1068) dL_law_1068 ?_
    refine v_sldB (pc := 1069) hX dL_law_1069 hf (fun i304 hf => ?_)
    refine v_aload_n (i := 0) (pc := 1070) dL_law_1070 rfl rfl ?_
    refine v_iload_n (i := 3) (pc := 1071) dL_law_1071 rfl rfl ?_
    refine v_iconst (pc := 1072) (3:Int32) dL_law_1072 rfl ?_
    refine v_iadd (pc := 1073) dL_law_1073 ?_
    refine v_sldB (pc := 1074) hX dL_law_1074 hf (fun i305 hf => ?_)
    obtain ⟨u309, cu309, hf⟩ := bnd hf
    obtain ⟨h306, i307, e308, hf⟩ := bndp hf
    refine v_M1 (pc := 1075) (As := [.int i303, .int i304, .int i305]) (rest := [.int i302]) lmL_124 cu309 (sM_alike e308) ⟨Nat.le_of_ble_eq_true rfl, Nat.le_of_ble_eq_true rfl, (by show ce + 0 + 0 ≤ 600000; omega), (by show sl + 0 + 0 ≤ 7302250; omega)⟩ dL_law_1075 rfl rfl (Nat.le_of_ble_eq_true rfl) ?_
    refine v_icmp_eq (pc := 1078) (tgt := 1119) dL_law_1078 rfl hf (fun hf => ?_) (fun hf => ?_)
    rotate_left
    · refine v_iconst (pc := 1081) (0:Int32) dL_law_1081 rfl ?_
      cases hf
    refine v_iinc (pc := 1119) (v := (x3 + (6:Int32))) (ls' := [some (.ref 0), some (.ref x1), some (.ref x2), some (.int (x3 + (6:Int32)))]) dL_law_1119 rfl rfl (by decide) rfl ?_
    refine v_goto (pc := 1122) (tgt := 28) dL_law_1122 rfl ?_
    refine v_widen (ce' := ce + 4) (sl' := sl + 115) (by show ce + 0 + 0 ≤ ce + 4; omega) (by show sl + 0 + 0 ≤ sl + 115; omega) ?_
    exact hk28 h306 x1 x2 (x3 + (6:Int32)) hf
  replace hf := if_f hf e353
  by_cases e354 : (i1 &&& (31:Int32)) = (24:Int32)
  · replace hf := if_t hf e354
    refine v_tswI (pc := 43) (tgt := 1083) (off := 1040) dL_law_43 (by rw [e354]; decide) (by rw [e354]; decide) (by rw [e354]; decide) rfl ?_
    refine v_aload_n (i := 1) (pc := 1083) dL_law_1083 rfl rfl ?_
    refine v_aload_n (i := 0) (pc := 1084) dL_law_1084 rfl rfl ?_
    refine v_iload_n (i := 3) (pc := 1085) dL_law_1085 rfl rfl ?_
    refine v_iconst (pc := 1086) (1:Int32) dL_law_1086 rfl ?_
    refine v_iadd (pc := 1087) dL_law_1087 ?_
    refine v_sldB (pc := 1088) hX dL_law_1088 hf (fun i312 hf => ?_)
    obtain ⟨u321, cu321, hf⟩ := bnd hf
    obtain ⟨h313, i314, e320, hf⟩ := bndp hf
    refine v_M1 (pc := 1089) (As := [.int i312]) (rest := []) lmL_125 cu321 (sX_count e320) ⟨Nat.le_of_ble_eq_true rfl, Nat.le_of_ble_eq_true rfl, (by show ce + 0 ≤ 600000; omega), (by show sl + 0 ≤ 7302250; omega)⟩ dL_law_1089 rfl rfl (Nat.le_of_ble_eq_true rfl) ?_
    refine v_aload_n (i := 2) (pc := 1092) dL_law_1092 rfl rfl ?_
    refine v_aload_n (i := 0) (pc := 1093) dL_law_1093 rfl rfl ?_
    refine v_iload_n (i := 3) (pc := 1094) dL_law_1094 rfl rfl ?_
    refine v_iconst (pc := 1095) (1:Int32) dL_law_1095 rfl ?_
    refine v_iadd (pc := 1096) dL_law_1096 ?_
    refine v_sldB (pc := 1097) hX dL_law_1097 hf (fun i315 hf => ?_)
    obtain ⟨u319, cu319, hf⟩ := bnd hf
    obtain ⟨h316, i317, e318, hf⟩ := bndp hf
    refine v_M1 (pc := 1098) (As := [.int i315]) (rest := [.int i314]) lmL_128 cu319 (sM_count e318) ⟨Nat.le_of_ble_eq_true rfl, Nat.le_of_ble_eq_true rfl, (by show ce + 0 + 0 ≤ 600000; omega), (by show sl + 0 + 0 ≤ 7302250; omega)⟩ dL_law_1098 rfl rfl (Nat.le_of_ble_eq_true rfl) ?_
    refine v_icmp_eq (pc := 1101) (tgt := 1119) dL_law_1101 rfl hf (fun hf => ?_) (fun hf => ?_)
    rotate_left
    · refine v_iconst (pc := 1104) (0:Int32) dL_law_1104 rfl ?_
      cases hf
    refine v_iinc (pc := 1119) (v := (x3 + (6:Int32))) (ls' := [some (.ref 0), some (.ref x1), some (.ref x2), some (.int (x3 + (6:Int32)))]) dL_law_1119 rfl rfl (by decide) rfl ?_
    refine v_goto (pc := 1122) (tgt := 28) dL_law_1122 rfl ?_
    refine v_widen (ce' := ce + 4) (sl' := sl + 115) (by show ce + 0 + 0 ≤ ce + 4; omega) (by show sl + 0 + 0 ≤ sl + 115; omega) ?_
    exact hk28 h316 x1 x2 (x3 + (6:Int32)) hf
  replace hf := if_f hf e354
  by_cases e355 : (i1 &&& (31:Int32)) = (25:Int32)
  · replace hf := if_t hf e355
    refine v_tswI (pc := 43) (tgt := 1106) (off := 1063) dL_law_43 (by rw [e355]; decide) (by rw [e355]; decide) (by rw [e355]; decide) rfl ?_
    refine v_aload_n (i := 1) (pc := 1106) dL_law_1106 rfl rfl ?_
    obtain ⟨u329, cu329, hf⟩ := bnd hf
    obtain ⟨h322, i323, e328, hf⟩ := bndp hf
    refine v_M1 (pc := 1107) (As := []) (rest := []) lmL_129 cu329 (sX_status e328) ⟨Nat.le_of_ble_eq_true rfl, Nat.le_of_ble_eq_true rfl, (by show ce + 0 ≤ 600000; omega), (by show sl + 0 ≤ 7302250; omega)⟩ dL_law_1107 rfl rfl (Nat.le_of_ble_eq_true rfl) ?_
    refine v_aload_n (i := 2) (pc := 1110) dL_law_1110 rfl rfl ?_
    obtain ⟨u327, cu327, hf⟩ := bnd hf
    obtain ⟨h324, i325, e326, hf⟩ := bndp hf
    refine v_M1 (pc := 1111) (As := []) (rest := [.int i323]) lmL_133 cu327 (sM_status e326) ⟨Nat.le_of_ble_eq_true rfl, Nat.le_of_ble_eq_true rfl, (by show ce + 0 + 0 ≤ 600000; omega), (by show sl + 0 + 0 ≤ 7302250; omega)⟩ dL_law_1111 rfl rfl (Nat.le_of_ble_eq_true rfl) ?_
    refine v_icmp_eq (pc := 1114) (tgt := 1119) dL_law_1114 rfl hf (fun hf => ?_) (fun hf => ?_)
    rotate_left
    · refine v_iconst (pc := 1117) (0:Int32) dL_law_1117 rfl ?_
      cases hf
    refine v_iinc (pc := 1119) (v := (x3 + (6:Int32))) (ls' := [some (.ref 0), some (.ref x1), some (.ref x2), some (.int (x3 + (6:Int32)))]) dL_law_1119 rfl rfl (by decide) rfl ?_
    refine v_goto (pc := 1122) (tgt := 28) dL_law_1122 rfl ?_
    refine v_widen (ce' := ce + 4) (sl' := sl + 115) (by show ce + 0 + 0 ≤ ce + 4; omega) (by show sl + 0 + 0 ≤ sl + 115; omega) ?_
    exact hk28 h324 x1 x2 (x3 + (6:Int32)) hf
  replace hf := if_f hf e355
  refine v_tswO (pc := 43) (tgt := 1119) dL_law_43 (by have := lv_neT e330 (a := 0) (by decide); have := lv_neT e331 (a := 1) (by decide); have := lv_neT e332 (a := 2) (by decide); have := lv_neT e333 (a := 3) (by decide); have := lv_neT e334 (a := 4) (by decide); have := lv_neT e335 (a := 5) (by decide); have := lv_neT e336 (a := 6) (by decide); have := lv_neT e337 (a := 7) (by decide); have := lv_neT e338 (a := 8) (by decide); have := lv_neT e339 (a := 9) (by decide); have := lv_neT e340 (a := 10) (by decide); have := lv_neT e341 (a := 11) (by decide); have := lv_neT e342 (a := 12) (by decide); have := lv_neT e343 (a := 13) (by decide); have := lv_neT e344 (a := 14) (by decide); have := lv_neT e345 (a := 15) (by decide); have := lv_neT e346 (a := 16) (by decide); have := lv_neT e347 (a := 17) (by decide); have := lv_neT e348 (a := 18) (by decide); have := lv_neT e349 (a := 19) (by decide); have := lv_neT e350 (a := 20) (by decide); have := lv_neT e351 (a := 21) (by decide); have := lv_neT e352 (a := 22) (by decide); have := lv_neT e353 (a := 23) (by decide); have := lv_neT e354 (a := 24) (by decide); have := lv_neT e355 (a := 25) (by decide); omega) rfl ?_
  refine v_iinc (pc := 1119) (v := (x3 + (6:Int32))) (ls' := [some (.ref 0), some (.ref x1), some (.ref x2), some (.int (x3 + (6:Int32)))]) dL_law_1119 rfl rfl (by decide) rfl ?_
  refine v_goto (pc := 1122) (tgt := 28) dL_law_1122 rfl ?_
  refine v_widen (ce' := ce + 4) (sl' := sl + 115) (by show ce ≤ ce + 4; omega) (by show sl ≤ sl + 115; omega) ?_
  exact hk28 h x1 x2 (x3 + (6:Int32)) hf
theorem law_loop {g : Gh} {o : MH} {X : List Int32} (hX : gX g = X) : ∀ (n : Nat), n ≤ 60000 → ∀ (h : MH) (x1 x2 : Nat) (x3 : Int32), lp (fun n k s => bL_law_28 X n k s.1 s.2.1 s.2.2.1 s.2.2.2) n (h, x1, x2, x3) = some o → V g x code 4 ret room_1 (ZL g) (600000 - 4 * n) (7302250 - 115 * n) h 28 [some (.ref 0), some (.ref x1), some (.ref x2), some (.int x3)] []
  | 0, _, h, x1, x2, x3, hf => by cases hf
  | n + 1, hn, h, x1, x2, x3, hf => tL_law_28 hX (by omega) (by omega) (fun h x1 x2 x3 e => v_widen (by omega) (by omega) (law_loop hX n (by omega) h x1 x2 x3 e)) n h x1 x2 x3 hf
def fL_law (X : List Int32) (n : Nat) (h : MH) : Option MH := (alc h (cO 11 [.null, .null, .null, .null, .null, .null, .null, .null, .int 0]) fun h1 a2 => (bnd2 (fL_cell X h1 (0:Int32)) fun h3 i4 => ((fX_init n h3 a2 i4).bind fun h5 => (alc h5 (cO 12 [.int 0, .int 0, .int 0, .null, .null, .null, .null, .null, .null, .null, .null, .null, .null, .int 0, .null, .null, .null, .null, .null, .null]) fun h6 a7 => (bnd2 (fL_cell X h6 (0:Int32)) fun h8 i9 => ((fM_init n h8 a7 i9).bind fun h10 => (lp (fun n k s => bL_law_28 X n k s.1 s.2.1 s.2.2.1 s.2.2.2) n (h10, a2, a7, (1:Int32)))))))))
set_option maxRecDepth 20000 in
set_option maxHeartbeats 8000000 in
theorem tL_law {g : Gh} {o : MH} {X : List Int32} (hX : gX g = X) (n : Nat) (hn : n ≤ 60000) (h : MH) (hf : fL_law X n h = some o) : V g x code 4 ret room_1 (ZL g) 0 0 h 0 [some (.ref 0), none, none, none] [] := by
  unfold fL_law at hf
  refine v_new (pc := 0) noL_7 dL_law_0 (Nat.le_of_ble_eq_true rfl) (Nat.le_of_ble_eq_true rfl) hf (fun h1 a2 hf => ?_)
  refine v_dup (pc := 3) dL_law_3 rfl ?_
  refine v_aload_n (i := 0) (pc := 4) dL_law_4 rfl rfl ?_
  refine v_iconst (pc := 5) (0:Int32) dL_law_5 rfl ?_
  obtain ⟨h3, i4, e14, hf⟩ := bndp hf
  refine v_S1 (pc := 6) (As := [.ref 0, .int (0:Int32)]) (rest := [.ref a2, .ref a2]) lsL_9 (sL_cell hX e14) ⟨Nat.le_of_ble_eq_true rfl, Nat.le_of_ble_eq_true rfl, (by show 0 + 1 + 0 ≤ 600000; omega), (by show 0 + 9 + 0 ≤ 7302250; omega)⟩ dL_law_6 rfl rfl (Nat.le_of_ble_eq_true rfl) ?_
  obtain ⟨h5, e13, hf⟩ := bnd hf
  refine v_I0 (pc := 9) (As := [.int i4]) (rest := [.ref a2]) liL_15 (sX_init e13) ⟨Nat.le_of_ble_eq_true rfl, Nat.le_of_ble_eq_true rfl, (by show 0 + 1 + 0 + 112 ≤ 600000; omega), (by show 0 + 9 + 0 + 3369 ≤ 7302250; omega)⟩ dL_law_9 rfl rfl (Nat.le_of_ble_eq_true rfl) ?_
  refine v_astore_n (i := 1) (pc := 12) (ls' := [some (.ref 0), some (.ref a2), none, none]) dL_law_12 rfl (by decide) rfl ?_
  refine v_new (pc := 13) noL_18 dL_law_13 (Nat.le_of_ble_eq_true rfl) (Nat.le_of_ble_eq_true rfl) hf (fun h6 a7 hf => ?_)
  refine v_dup (pc := 16) dL_law_16 rfl ?_
  refine v_aload_n (i := 0) (pc := 17) dL_law_17 rfl rfl ?_
  refine v_iconst (pc := 18) (0:Int32) dL_law_18 rfl ?_
  obtain ⟨h8, i9, e12, hf⟩ := bndp hf
  refine v_S1 (pc := 19) (As := [.ref 0, .int (0:Int32)]) (rest := [.ref a7, .ref a7]) lsL_9 (sL_cell hX e12) ⟨Nat.le_of_ble_eq_true rfl, Nat.le_of_ble_eq_true rfl, (by show 0 + 1 + 0 + 112 + 1 + 0 ≤ 600000; omega), (by show 0 + 9 + 0 + 3369 + 20 + 0 ≤ 7302250; omega)⟩ dL_law_19 rfl rfl (Nat.le_of_ble_eq_true rfl) ?_
  obtain ⟨h10, e11, hf⟩ := bnd hf
  refine v_I0 (pc := 22) (As := [.int i9]) (rest := [.ref a7]) liL_20 (sM_init e11) ⟨Nat.le_of_ble_eq_true rfl, Nat.le_of_ble_eq_true rfl, (by show 0 + 1 + 0 + 112 + 1 + 0 + 16 ≤ 600000; omega), (by show 0 + 9 + 0 + 3369 + 20 + 0 + 2011 ≤ 7302250; omega)⟩ dL_law_22 rfl rfl (Nat.le_of_ble_eq_true rfl) ?_
  refine v_astore_n (i := 2) (pc := 25) (ls' := [some (.ref 0), some (.ref a2), some (.ref a7), none]) dL_law_25 rfl (by decide) rfl ?_
  refine v_iconst (pc := 26) (1:Int32) dL_law_26 rfl ?_
  refine v_istore_n (i := 3) (pc := 27) (ls' := [some (.ref 0), some (.ref a2), some (.ref a7), some (.int (1:Int32))]) dL_law_27 rfl (by decide) rfl ?_
  refine v_widen (ce' := 600000 - 4 * n) (sl' := 7302250 - 115 * n) (by show 0 + 1 + 0 + 112 + 1 + 0 + 16 ≤ 600000 - 4 * n; omega) (by show 0 + 9 + 0 + 3369 + 20 + 0 + 2011 ≤ 7302250 - 115 * n; omega) ?_
  exact law_loop hX n hn h10 a2 a7 (1:Int32) hf

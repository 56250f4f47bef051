set_option maxRecDepth 100000 in
theorem wm_L_133 : Cond.methodLink RL 133 yX9_sum ∈ gw := gm (List.mem_of_getElem? (i := 1226) (by decide +kernel)) rfl
set_option maxRecDepth 100000 in
theorem mi_X9_sum : MI yX9_sum cX9_sum 7 (some .int) 4 := ⟨gm (List.mem_of_getElem? (i := 1229) rfl) rfl, gm (List.mem_of_getElem? (i := 112) (by decide +kernel)) rfl, by decide, by decide, by decide +kernel⟩
set_option maxRecDepth 100000 in
theorem in_X9_sum : Cond.instanceMethod yX9_sum ∈ gw := gm (List.mem_of_getElem? (i := 1227) (by decide +kernel)) rfl
set_option maxRecDepth 100000 in
theorem se_X9_sum : Cond.selects yX9_sum.cls yX9_sum yX9_sum ∈ gw := gm (List.mem_of_getElem? (i := 1228) (by decide +kernel)) rfl
set_option maxRecDepth 100000 in
theorem wm_L_136 : Cond.methodLink RL 136 yX10_sum ∈ gw := gm (List.mem_of_getElem? (i := 1841) (by decide +kernel)) rfl
set_option maxRecDepth 100000 in
theorem mi_X10_sum : MI yX10_sum cX10_sum 6 (some .int) 4 := ⟨gm (List.mem_of_getElem? (i := 1844) rfl) rfl, gm (List.mem_of_getElem? (i := 124) (by decide +kernel)) rfl, by decide, by decide, by decide +kernel⟩
set_option maxRecDepth 100000 in
theorem in_X10_sum : Cond.instanceMethod yX10_sum ∈ gw := gm (List.mem_of_getElem? (i := 1842) (by decide +kernel)) rfl
set_option maxRecDepth 100000 in
theorem se_X10_sum : Cond.selects yX10_sum.cls yX10_sum yX10_sum ∈ gw := gm (List.mem_of_getElem? (i := 1843) (by decide +kernel)) rfl
set_option maxHeartbeats 8000000 in
set_option maxRecDepth 100000 in
theorem law_sum {p : Program} {l : Launch} {e : Env} {s : State} {m : MethodId} {below : List Frame} {meth : Method} {c : Code} {b L ax am : Nat} {xs : Nat → Int32} {A : Nat → Prop} {G : va_G} {cI cJ cB cZ : ClassId} (hC : CallFix p m c code 4 s #[Value.ref b] gw R_law) (hr : meth.sig.returnType = ret) (hlk : meth.locks = false) (hN : NW s) (hZ : SW A s s.heap) (hK : va_K G cl (TY cI cJ cB cZ) s) (hX : va_X b L xs s s.heap) (hbl : b < s.heap.size) (hA : ∀ q, s.heap.size ≤ q → A q) (hbA : ¬ A b) (hfo : ∀ q, A q → s.heap.size ≤ q) {n : Nat} (ih : LI p l e s m below meth c b L A G cI cJ cB cZ ax am n) (g : Nat) (tm : Int) (wx wm : va_W) (i : Int32) (H : Heap) (locs : List Loc) (ls : Array Slot) (hXI : XI cI cJ cB cZ ax tm g wx) (hMJ : MJ cI cJ cB cZ am tm wm) (hi0 : 0 ≤ i.toInt) (hiL : i.toInt ≤ (L : Int) + 6) (hL : L ≤ 3072) (hm : (L : Int) + 6 - i.toInt < (n : Int) + 1) (hi6 : i.toInt + 6 ≤ (L : Int)) (hP : va_P G cl (wx ++ wm) H) (hD : va_D A (wx ++ wm)) (hS : va_S A s.heap H locs) (hl : lv_has ls 4 [(3, .int i), (2, .ref am), (1, .ref ax), (0, .ref b)]) : W p l e room_1 s m #[Value.ref b] below meth c H locs (1000 + g) (1000000 + fs g) (lw_Z below #[Value.ref b] s) (F0 m 1313 ls []) := by
  obtain ⟨hx, hb, hml, hown, hts⟩ := id hC
  refine lv_aload_n hx hb dL_law_1313 rfl (lv_at hl 2 rfl) ?_
  refine lv_aload_n hx hb dL_law_1314 rfl (lv_at hl 3 rfl) ?_
  refine lv_iload_n hx hb dL_law_1315 rfl (lv_at hl 0 rfl) ?_
  refine lv_iconst (v := 1) hx hb dL_law_1316 (by decide) ?_
  refine lv_iadd hx hb dL_law_1317 ?_
  refine t_i (fun q => q.toInt = i.toInt + 1) (add_i (by show (-2147483648 : Int) ≤ i.toInt + 1; omega) (by show i.toInt + 1 ≤ (2147483647 : Int); omega)) (fun z1 tz1 => ?_)
  refine va_sld hx hb hX hbl hbA hS (i := z1) (vp_in_iff.mpr ⟨by omega, by omega⟩) dL_law_1318 ?_
  refine t_i (fun q => ∀ k : Int, (z1 : Int32).toInt = k → q.toInt = gI xs k) (fun _ hk => gI_of hk) (fun z2 sx_1318 => ?_)
  refine lv_aload_n hx hb dL_law_1319 rfl (lv_at hl 3 rfl) ?_
  refine lv_iload_n hx hb dL_law_1320 rfl (lv_at hl 0 rfl) ?_
  refine lv_iconst (v := 2) hx hb dL_law_1321 (by decide) ?_
  refine lv_iadd hx hb dL_law_1322 ?_
  refine t_i (fun q => q.toInt = i.toInt + 2) (add_i (by show (-2147483648 : Int) ≤ i.toInt + 2; omega) (by show i.toInt + 2 ≤ (2147483647 : Int); omega)) (fun z3 tz3 => ?_)
  refine va_sld hx hb hX hbl hbA hS (i := z3) (vp_in_iff.mpr ⟨by omega, by omega⟩) dL_law_1323 ?_
  refine t_i (fun q => ∀ k : Int, (z3 : Int32).toInt = k → q.toInt = gI xs k) (fun _ hk => gI_of hk) (fun z4 sx_1323 => ?_)
  refine lv_aload_n hx hb dL_law_1324 rfl (lv_at hl 3 rfl) ?_
  refine lv_iload_n hx hb dL_law_1325 rfl (lv_at hl 0 rfl) ?_
  refine lv_iconst (v := 3) hx hb dL_law_1326 (by decide) ?_
  refine lv_iadd hx hb dL_law_1327 ?_
  refine t_i (fun q => q.toInt = i.toInt + 3) (add_i (by show (-2147483648 : Int) ≤ i.toInt + 3; omega) (by show i.toInt + 3 ≤ (2147483647 : Int); omega)) (fun z5 tz5 => ?_)
  refine va_sld hx hb hX hbl hbA hS (i := z5) (vp_in_iff.mpr ⟨by omega, by omega⟩) dL_law_1328 ?_
  refine t_i (fun q => ∀ k : Int, (z5 : Int32).toInt = k → q.toInt = gI xs k) (fun _ hk => gI_of hk) (fun z6 sx_1328 => ?_)
  have JB_1337 : ∀ zb7 : Int32, 0 ≤ zb7.toInt ∧ zb7.toInt ≤ 1 → W p l e room_1 s m #[Value.ref b] below meth c H locs (1000 + g) (1000000 + fs g) (lw_Z below #[Value.ref b] s) (F0 m 1337 ls [.int zb7, .int z4, .int z2, .ref ax]) := by
    intro zb7 hzb7
    refine lv_aload_n hx hb dL_law_1337 rfl (lv_at hl 3 rfl) ?_
    refine lv_iload_n hx hb dL_law_1338 rfl (lv_at hl 0 rfl) ?_
    refine lv_iconst (v := 4) hx hb dL_law_1339 (by decide) ?_
    refine lv_iadd hx hb dL_law_1340 ?_
    refine t_i (fun q => q.toInt = i.toInt + 4) (add_i (by show (-2147483648 : Int) ≤ i.toInt + 4; omega) (by show i.toInt + 4 ≤ (2147483647 : Int); omega)) (fun z8 tz8 => ?_)
    refine va_sld hx hb hX hbl hbA hS (i := z8) (vp_in_iff.mpr ⟨by omega, by omega⟩) dL_law_1341 ?_
    refine t_i (fun q => ∀ k : Int, (z8 : Int32).toInt = k → q.toInt = gI xs k) (fun _ hk => gI_of hk) (fun z9 sx_1341 => ?_)
    refine W.know (fun hgr => ?_)
    refine k_LG hC hN hZ hS hA hK hP hD (xw_sum l G cI cJ cB cZ hXI z2 z4 zb7 z9 hzb7) mi_X9_sum in_X9_sum se_X9_sum wm_L_133 9 rfl rfl (hXI.rc) hl.1 rfl rfl (Nat.le_of_ble_eq_true rfl) ⟨(Nat.le_of_ble_eq_true rfl), (Nat.le_of_ble_eq_true rfl)⟩ dL_law_1342 (gr_wG hXI.g11) (fun r10 u10 H locs hp hP hD hS hgn => ?_)
    obtain ⟨g10, w10⟩ := u10
    obtain ⟨hXI10, hgg⟩ := hp
    have hXI10 : XI cI cJ cB cZ ax tm g10 w10 := hXI10
    have hgg : g ≤ g10 := hgg
    refine W.tight (k := 1000 + g10) (n := 1000000 + fs g10) (GR.tr4 hgr hgn hgg) ?_
    have hP : va_P G cl (wm ++ w10) H := hP
    have hD : va_D A (wm ++ w10) := hD
    refine lv_pop hx hb dL_law_1345 rfl ?_
    refine lv_aload_n hx hb dL_law_1346 rfl (lv_at hl 1 rfl) ?_
    refine lv_aload_n hx hb dL_law_1347 rfl (lv_at hl 3 rfl) ?_
    refine lv_iload_n hx hb dL_law_1348 rfl (lv_at hl 0 rfl) ?_
    refine lv_iconst (v := 1) hx hb dL_law_1349 (by decide) ?_
    refine lv_iadd hx hb dL_law_1350 ?_
    refine t_i (fun q => q.toInt = i.toInt + 1) (add_i (by show (-2147483648 : Int) ≤ i.toInt + 1; omega) (by show i.toInt + 1 ≤ (2147483647 : Int); omega)) (fun z11 tz11 => ?_)
    refine va_sld hx hb hX hbl hbA hS (i := z11) (vp_in_iff.mpr ⟨by omega, by omega⟩) dL_law_1351 ?_
    refine t_i (fun q => ∀ k : Int, (z11 : Int32).toInt = k → q.toInt = gI xs k) (fun _ hk => gI_of hk) (fun z12 sx_1351 => ?_)
    refine lv_aload_n hx hb dL_law_1352 rfl (lv_at hl 3 rfl) ?_
    refine lv_iload_n hx hb dL_law_1353 rfl (lv_at hl 0 rfl) ?_
    refine lv_iconst (v := 2) hx hb dL_law_1354 (by decide) ?_
    refine lv_iadd hx hb dL_law_1355 ?_
    refine t_i (fun q => q.toInt = i.toInt + 2) (add_i (by show (-2147483648 : Int) ≤ i.toInt + 2; omega) (by show i.toInt + 2 ≤ (2147483647 : Int); omega)) (fun z13 tz13 => ?_)
    refine va_sld hx hb hX hbl hbA hS (i := z13) (vp_in_iff.mpr ⟨by omega, by omega⟩) dL_law_1356 ?_
    refine t_i (fun q => ∀ k : Int, (z13 : Int32).toInt = k → q.toInt = gI xs k) (fun _ hk => gI_of hk) (fun z14 sx_1356 => ?_)
    refine lv_aload_n hx hb dL_law_1357 rfl (lv_at hl 3 rfl) ?_
    refine lv_iload_n hx hb dL_law_1358 rfl (lv_at hl 0 rfl) ?_
    refine lv_iconst (v := 3) hx hb dL_law_1359 (by decide) ?_
    refine lv_iadd hx hb dL_law_1360 ?_
    refine t_i (fun q => q.toInt = i.toInt + 3) (add_i (by show (-2147483648 : Int) ≤ i.toInt + 3; omega) (by show i.toInt + 3 ≤ (2147483647 : Int); omega)) (fun z15 tz15 => ?_)
    refine va_sld hx hb hX hbl hbA hS (i := z15) (vp_in_iff.mpr ⟨by omega, by omega⟩) dL_law_1361 ?_
    refine t_i (fun q => ∀ k : Int, (z15 : Int32).toInt = k → q.toInt = gI xs k) (fun _ hk => gI_of hk) (fun z16 sx_1361 => ?_)
    have JB_1370 : ∀ zb17 : Int32, 0 ≤ zb17.toInt ∧ zb17.toInt ≤ 1 → W p l e room_1 s m #[Value.ref b] below meth c H locs (1000 + g10) (1000000 + fs g10) (lw_Z below #[Value.ref b] s) (F0 m 1370 ls [.int zb17, .int z14, .int z12, .ref am]) := by
      intro zb17 hzb17
      refine lv_aload_n hx hb dL_law_1370 rfl (lv_at hl 3 rfl) ?_
      refine lv_iload_n hx hb dL_law_1371 rfl (lv_at hl 0 rfl) ?_
      refine lv_iconst (v := 4) hx hb dL_law_1372 (by decide) ?_
      refine lv_iadd hx hb dL_law_1373 ?_
      refine t_i (fun q => q.toInt = i.toInt + 4) (add_i (by show (-2147483648 : Int) ≤ i.toInt + 4; omega) (by show i.toInt + 4 ≤ (2147483647 : Int); omega)) (fun z18 tz18 => ?_)
      refine va_sld hx hb hX hbl hbA hS (i := z18) (vp_in_iff.mpr ⟨by omega, by omega⟩) dL_law_1374 ?_
      refine t_i (fun q => ∀ k : Int, (z18 : Int32).toInt = k → q.toInt = gI xs k) (fun _ hk => gI_of hk) (fun z19 sx_1374 => ?_)
      refine k_L hC hN hZ hS hA hK hP hD (mw_sum l G cI cJ cB cZ hMJ z12 z14 zb17 z19 hzb17) mi_X10_sum in_X10_sum se_X10_sum wm_L_136 10 rfl rfl (hMJ.rc) hl.1 rfl rfl (Nat.le_of_ble_eq_true rfl) ⟨(Nat.le_of_ble_eq_true rfl), (Nat.le_of_ble_eq_true rfl)⟩ dL_law_1375 ⟨rfl, rfl⟩ (gr_w0 hXI10.g11) (fun r20 u20 H locs hp hP hD hS => ?_)
      have hMJ20 : MJ cI cJ cB cZ am tm u20 := hp
      have hP : va_P G cl (w10 ++ u20) H := hP
      have hD : va_D A (w10 ++ u20) := hD
      refine lv_pop hx hb dL_law_1378 rfl ?_
      refine lv_goto (tgt := 1428) hx hb dL_law_1379 (by decide) ?_
      obtain ⟨z21, ez21⟩ : ∃ q : Int32, q = i + Int32.ofInt 6 := ⟨_, rfl⟩
      have tz21 : z21.toInt = i.toInt + 6 := by rw [ez21]; exact add_i (y := 6) (by have p_ := i_lo i; show _ ≤ _ + (6 : Int); omega) (by have q_ := i_hi i; show _ + (6 : Int) ≤ _; omega)
      refine lv_iinc (v := z21) (lv' := [(3, .int z21), (2, .ref am), (1, .ref ax), (0, .ref b)]) hx hb dL_law_1428 hl (k := 0) rfl ez21.symm (by decide) rfl (fun ls hl => ?_)
      refine lv_goto (tgt := 18) hx hb dL_law_1431 (by decide) ?_
      exact ih g10 tm w10 u20 z21 H locs ls hXI10 hMJ20 (by omega) (by omega) (by omega) hP hD hS (lv_sub hl [0, 1, 2, 3] rfl)
    refine lv_if_eq (tgt := 1369) hx hb dL_law_1362 (by decide) (fun _ => ?_) (fun _ => ?_)
    · refine lv_iconst (v := 0) hx hb dL_law_1369 (by decide) ?_
      exact JB_1370 0 (by decide)
    · refine lv_iconst (v := 1) hx hb dL_law_1365 (by decide) ?_
      refine lv_goto (tgt := 1370) hx hb dL_law_1366 (by decide) ?_
      exact JB_1370 1 (by decide)
  refine lv_if_eq (tgt := 1336) hx hb dL_law_1329 (by decide) (fun _ => ?_) (fun _ => ?_)
  · refine lv_iconst (v := 0) hx hb dL_law_1336 (by decide) ?_
    exact JB_1337 0 (by decide)
  · refine lv_iconst (v := 1) hx hb dL_law_1332 (by decide) ?_
    refine lv_goto (tgt := 1337) hx hb dL_law_1333 (by decide) ?_
    exact JB_1337 1 (by decide)
set_option maxRecDepth 100000 in
theorem wm_L_137 : Cond.methodLink RL 137 yX9_thumbs ∈ gw := gm (List.mem_of_getElem? (i := 1230) (by decide +kernel)) rfl
set_option maxRecDepth 100000 in
theorem mi_X9_thumbs : MI yX9_thumbs cX9_thumbs 2 (some .int) 1 := ⟨gm (List.mem_of_getElem? (i := 1233) rfl) rfl, gm (List.mem_of_getElem? (i := 112) (by decide +kernel)) rfl, by decide, by decide, by decide +kernel⟩
set_option maxRecDepth 100000 in
theorem in_X9_thumbs : Cond.instanceMethod yX9_thumbs ∈ gw := gm (List.mem_of_getElem? (i := 1231) (by decide +kernel)) rfl
set_option maxRecDepth 100000 in
theorem se_X9_thumbs : Cond.selects yX9_thumbs.cls yX9_thumbs yX9_thumbs ∈ gw := gm (List.mem_of_getElem? (i := 1232) (by decide +kernel)) rfl
set_option maxRecDepth 100000 in
theorem wm_L_140 : Cond.methodLink RL 140 yX10_thumbs ∈ gw := gm (List.mem_of_getElem? (i := 1845) (by decide +kernel)) rfl
set_option maxRecDepth 100000 in
theorem mi_X10_thumbs : MI yX10_thumbs cX10_thumbs 6 (some .int) 1 := ⟨gm (List.mem_of_getElem? (i := 1848) rfl) rfl, gm (List.mem_of_getElem? (i := 124) (by decide +kernel)) rfl, by decide, by decide, by decide +kernel⟩
set_option maxRecDepth 100000 in
theorem in_X10_thumbs : Cond.instanceMethod yX10_thumbs ∈ gw := gm (List.mem_of_getElem? (i := 1846) (by decide +kernel)) rfl
set_option maxRecDepth 100000 in
theorem se_X10_thumbs : Cond.selects yX10_thumbs.cls yX10_thumbs yX10_thumbs ∈ gw := gm (List.mem_of_getElem? (i := 1847) (by decide +kernel)) rfl
set_option maxHeartbeats 8000000 in
set_option maxRecDepth 100000 in
theorem law_thumbs {p : Program} {l : Launch} {e : Env} {s : State} {m : MethodId} {below : List Frame} {meth : Method} {c : Code} {b L ax am : Nat} {xs : Nat → Int32} {A : Nat → Prop} {G : va_G} {cI cJ cB cZ : ClassId} (hC : CallFix p m c code 4 s #[Value.ref b] gw R_law) (hr : meth.sig.returnType = ret) (hlk : meth.locks = false) (hN : NW s) (hZ : SW A s s.heap) (hK : va_K G cl (TY cI cJ cB cZ) s) (hX : va_X b L xs s s.heap) (hbl : b < s.heap.size) (hA : ∀ q, s.heap.size ≤ q → A q) (hbA : ¬ A b) (hfo : ∀ q, A q → s.heap.size ≤ q) {n : Nat} (ih : LI p l e s m below meth c b L A G cI cJ cB cZ ax am n) (g : Nat) (tm : Int) (wx wm : va_W) (i : Int32) (H : Heap) (locs : List Loc) (ls : Array Slot) (hXI : XI cI cJ cB cZ ax tm g wx) (hMJ : MJ cI cJ cB cZ am tm wm) (hi0 : 0 ≤ i.toInt) (hiL : i.toInt ≤ (L : Int) + 6) (hL : L ≤ 3072) (hm : (L : Int) + 6 - i.toInt < (n : Int) + 1) (hi6 : i.toInt + 6 ≤ (L : Int)) (hP : va_P G cl (wx ++ wm) H) (hD : va_D A (wx ++ wm)) (hS : va_S A s.heap H locs) (hl : lv_has ls 4 [(3, .int i), (2, .ref am), (1, .ref ax), (0, .ref b)]) : W p l e room_1 s m #[Value.ref b] below meth c H locs (1000 + g) (1000000 + fs g) (lw_Z below #[Value.ref b] s) (F0 m 1382 ls []) := by
  obtain ⟨hx, hb, hml, hown, hts⟩ := id hC
  refine lv_aload_n hx hb dL_law_1382 rfl (lv_at hl 2 rfl) ?_
  refine lv_aload_n hx hb dL_law_1383 rfl (lv_at hl 3 rfl) ?_
  refine lv_iload_n hx hb dL_law_1384 rfl (lv_at hl 0 rfl) ?_
  refine lv_iconst (v := 1) hx hb dL_law_1385 (by decide) ?_
  refine lv_iadd hx hb dL_law_1386 ?_
  refine t_i (fun q => q.toInt = i.toInt + 1) (add_i (by show (-2147483648 : Int) ≤ i.toInt + 1; omega) (by show i.toInt + 1 ≤ (2147483647 : Int); omega)) (fun z1 tz1 => ?_)
  refine va_sld hx hb hX hbl hbA hS (i := z1) (vp_in_iff.mpr ⟨by omega, by omega⟩) dL_law_1387 ?_
  refine t_i (fun q => ∀ k : Int, (z1 : Int32).toInt = k → q.toInt = gI xs k) (fun _ hk => gI_of hk) (fun z2 sx_1387 => ?_)
  refine k_L hC hN hZ hS hA hK hP hD (xw_thumbs l G cI cJ cB cZ hXI z2) mi_X9_thumbs in_X9_thumbs se_X9_thumbs wm_L_137 9 rfl rfl (hXI.rc) hl.1 rfl rfl (Nat.le_of_ble_eq_true rfl) ⟨(Nat.le_of_ble_eq_true rfl), (Nat.le_of_ble_eq_true rfl)⟩ dL_law_1388 ⟨rfl, rfl⟩ (gr_w0 hXI.g11) (fun r3 u3 H locs hp hP hD hS => ?_)
  have hXI3 : XI cI cJ cB cZ ax tm g u3 := hp
  have hP : va_P G cl (wm ++ u3) H := hP
  have hD : va_D A (wm ++ u3) := hD
  refine lv_pop hx hb dL_law_1391 rfl ?_
  refine lv_aload_n hx hb dL_law_1392 rfl (lv_at hl 1 rfl) ?_
  refine lv_aload_n hx hb dL_law_1393 rfl (lv_at hl 3 rfl) ?_
  refine lv_iload_n hx hb dL_law_1394 rfl (lv_at hl 0 rfl) ?_
  refine lv_iconst (v := 1) hx hb dL_law_1395 (by decide) ?_
  refine lv_iadd hx hb dL_law_1396 ?_
  refine t_i (fun q => q.toInt = i.toInt + 1) (add_i (by show (-2147483648 : Int) ≤ i.toInt + 1; omega) (by show i.toInt + 1 ≤ (2147483647 : Int); omega)) (fun z4 tz4 => ?_)
  refine va_sld hx hb hX hbl hbA hS (i := z4) (vp_in_iff.mpr ⟨by omega, by omega⟩) dL_law_1397 ?_
  refine t_i (fun q => ∀ k : Int, (z4 : Int32).toInt = k → q.toInt = gI xs k) (fun _ hk => gI_of hk) (fun z5 sx_1397 => ?_)
  refine k_L hC hN hZ hS hA hK hP hD (mw_thumbs l G cI cJ cB cZ hMJ z5) mi_X10_thumbs in_X10_thumbs se_X10_thumbs wm_L_140 10 rfl rfl (hMJ.rc) hl.1 rfl rfl (Nat.le_of_ble_eq_true rfl) ⟨(Nat.le_of_ble_eq_true rfl), (Nat.le_of_ble_eq_true rfl)⟩ dL_law_1398 ⟨rfl, rfl⟩ (gr_w0 hXI3.g11) (fun r6 u6 H locs hp hP hD hS => ?_)
  have hMJ6 : MJ cI cJ cB cZ am tm u6 := hp
  have hP : va_P G cl (u3 ++ u6) H := hP
  have hD : va_D A (u3 ++ u6) := hD
  refine lv_pop hx hb dL_law_1401 rfl ?_
  refine lv_goto (tgt := 1428) hx hb dL_law_1402 (by decide) ?_
  obtain ⟨z7, ez7⟩ : ∃ q : Int32, q = i + Int32.ofInt 6 := ⟨_, rfl⟩
  have tz7 : z7.toInt = i.toInt + 6 := by rw [ez7]; exact add_i (y := 6) (by have p_ := i_lo i; show _ ≤ _ + (6 : Int); omega) (by have q_ := i_hi i; show _ + (6 : Int) ≤ _; omega)
  refine lv_iinc (v := z7) (lv' := [(3, .int z7), (2, .ref am), (1, .ref ax), (0, .ref b)]) hx hb dL_law_1428 hl (k := 0) rfl ez7.symm (by decide) rfl (fun ls hl => ?_)
  refine lv_goto (tgt := 18) hx hb dL_law_1431 (by decide) ?_
  exact ih g tm u3 u6 z7 H locs ls hXI3 hMJ6 (by omega) (by omega) (by omega) hP hD hS (lv_sub hl [0, 1, 2, 3] rfl)
set_option maxRecDepth 100000 in
theorem wm_L_141 : Cond.methodLink RL 141 yX9_about ∈ gw := gm (List.mem_of_getElem? (i := 1239) (by decide +kernel)) rfl
set_option maxRecDepth 100000 in
theorem mi_X9_about : MI yX9_about cX9_about 2 (some .int) 1 := ⟨gm (List.mem_of_getElem? (i := 1242) rfl) rfl, gm (List.mem_of_getElem? (i := 112) (by decide +kernel)) rfl, by decide, by decide, by decide +kernel⟩
set_option maxRecDepth 100000 in
theorem in_X9_about : Cond.instanceMethod yX9_about ∈ gw := gm (List.mem_of_getElem? (i := 1240) (by decide +kernel)) rfl
set_option maxRecDepth 100000 in
theorem se_X9_about : Cond.selects yX9_about.cls yX9_about yX9_about ∈ gw := gm (List.mem_of_getElem? (i := 1241) (by decide +kernel)) rfl
set_option maxRecDepth 100000 in
theorem wm_L_144 : Cond.methodLink RL 144 yX10_about ∈ gw := gm (List.mem_of_getElem? (i := 1854) (by decide +kernel)) rfl
set_option maxRecDepth 100000 in
theorem mi_X10_about : MI yX10_about cX10_about 2 (some .int) 1 := ⟨gm (List.mem_of_getElem? (i := 1857) rfl) rfl, gm (List.mem_of_getElem? (i := 124) (by decide +kernel)) rfl, by decide, by decide, by decide +kernel⟩
set_option maxRecDepth 100000 in
theorem in_X10_about : Cond.instanceMethod yX10_about ∈ gw := gm (List.mem_of_getElem? (i := 1855) (by decide +kernel)) rfl
set_option maxRecDepth 100000 in
theorem se_X10_about : Cond.selects yX10_about.cls yX10_about yX10_about ∈ gw := gm (List.mem_of_getElem? (i := 1856) (by decide +kernel)) rfl
set_option maxHeartbeats 8000000 in
set_option maxRecDepth 100000 in
theorem law_about {p : Program} {l : Launch} {e : Env} {s : State} {m : MethodId} {below : List Frame} {meth : Method} {c : Code} {b L ax am : Nat} {xs : Nat → Int32} {A : Nat → Prop} {G : va_G} {cI cJ cB cZ : ClassId} (hC : CallFix p m c code 4 s #[Value.ref b] gw R_law) (hr : meth.sig.returnType = ret) (hlk : meth.locks = false) (hN : NW s) (hZ : SW A s s.heap) (hK : va_K G cl (TY cI cJ cB cZ) s) (hX : va_X b L xs s s.heap) (hbl : b < s.heap.size) (hA : ∀ q, s.heap.size ≤ q → A q) (hbA : ¬ A b) (hfo : ∀ q, A q → s.heap.size ≤ q) {n : Nat} (ih : LI p l e s m below meth c b L A G cI cJ cB cZ ax am n) (g : Nat) (tm : Int) (wx wm : va_W) (i : Int32) (H : Heap) (locs : List Loc) (ls : Array Slot) (hXI : XI cI cJ cB cZ ax tm g wx) (hMJ : MJ cI cJ cB cZ am tm wm) (hi0 : 0 ≤ i.toInt) (hiL : i.toInt ≤ (L : Int) + 6) (hL : L ≤ 3072) (hm : (L : Int) + 6 - i.toInt < (n : Int) + 1) (hi6 : i.toInt + 6 ≤ (L : Int)) (hP : va_P G cl (wx ++ wm) H) (hD : va_D A (wx ++ wm)) (hS : va_S A s.heap H locs) (hl : lv_has ls 4 [(3, .int i), (2, .ref am), (1, .ref ax), (0, .ref b)]) : W p l e room_1 s m #[Value.ref b] below meth c H locs (1000 + g) (1000000 + fs g) (lw_Z below #[Value.ref b] s) (F0 m 1405 ls []) := by
  obtain ⟨hx, hb, hml, hown, hts⟩ := id hC
  refine lv_aload_n hx hb dL_law_1405 rfl (lv_at hl 2 rfl) ?_
  refine lv_aload_n hx hb dL_law_1406 rfl (lv_at hl 3 rfl) ?_
  refine lv_iload_n hx hb dL_law_1407 rfl (lv_at hl 0 rfl) ?_
  refine lv_iconst (v := 1) hx hb dL_law_1408 (by decide) ?_
  refine lv_iadd hx hb dL_law_1409 ?_
  refine t_i (fun q => q.toInt = i.toInt + 1) (add_i (by show (-2147483648 : Int) ≤ i.toInt + 1; omega) (by show i.toInt + 1 ≤ (2147483647 : Int); omega)) (fun z1 tz1 => ?_)
  refine va_sld hx hb hX hbl hbA hS (i := z1) (vp_in_iff.mpr ⟨by omega, by omega⟩) dL_law_1410 ?_
  refine t_i (fun q => ∀ k : Int, (z1 : Int32).toInt = k → q.toInt = gI xs k) (fun _ hk => gI_of hk) (fun z2 sx_1410 => ?_)
  refine k_L hC hN hZ hS hA hK hP hD (xw_about l G cI cJ cB cZ hXI z2) mi_X9_about in_X9_about se_X9_about wm_L_141 9 rfl rfl (hXI.rc) hl.1 rfl rfl (Nat.le_of_ble_eq_true rfl) ⟨(Nat.le_of_ble_eq_true rfl), (Nat.le_of_ble_eq_true rfl)⟩ dL_law_1411 ⟨rfl, rfl⟩ (gr_w0 hXI.g11) (fun r3 u3 H locs hp hP hD hS => ?_)
  have hXI3 : XI cI cJ cB cZ ax tm g u3 := hp
  have hP : va_P G cl (wm ++ u3) H := hP
  have hD : va_D A (wm ++ u3) := hD
  refine lv_pop hx hb dL_law_1414 rfl ?_
  refine lv_aload_n hx hb dL_law_1415 rfl (lv_at hl 1 rfl) ?_
  refine lv_aload_n hx hb dL_law_1416 rfl (lv_at hl 3 rfl) ?_
  refine lv_iload_n hx hb dL_law_1417 rfl (lv_at hl 0 rfl) ?_
  refine lv_iconst (v := 1) hx hb dL_law_1418 (by decide) ?_
  refine lv_iadd hx hb dL_law_1419 ?_
  refine t_i (fun q => q.toInt = i.toInt + 1) (add_i (by show (-2147483648 : Int) ≤ i.toInt + 1; omega) (by show i.toInt + 1 ≤ (2147483647 : Int); omega)) (fun z4 tz4 => ?_)
  refine va_sld hx hb hX hbl hbA hS (i := z4) (vp_in_iff.mpr ⟨by omega, by omega⟩) dL_law_1420 ?_
  refine t_i (fun q => ∀ k : Int, (z4 : Int32).toInt = k → q.toInt = gI xs k) (fun _ hk => gI_of hk) (fun z5 sx_1420 => ?_)
  refine k_L hC hN hZ hS hA hK hP hD (mw_about l G cI cJ cB cZ hMJ z5) mi_X10_about in_X10_about se_X10_about wm_L_144 10 rfl rfl (hMJ.rc) hl.1 rfl rfl (Nat.le_of_ble_eq_true rfl) ⟨(Nat.le_of_ble_eq_true rfl), (Nat.le_of_ble_eq_true rfl)⟩ dL_law_1421 ⟨rfl, rfl⟩ (gr_w0 hXI3.g11) (fun r6 u6 H locs hp hP hD hS => ?_)
  have hMJ6 : MJ cI cJ cB cZ am tm u6 := hp
  have hP : va_P G cl (u3 ++ u6) H := hP
  have hD : va_D A (u3 ++ u6) := hD
  refine lv_pop hx hb dL_law_1424 rfl ?_
  refine lv_goto (tgt := 1428) hx hb dL_law_1425 (by decide) ?_
  obtain ⟨z7, ez7⟩ : ∃ q : Int32, q = i + Int32.ofInt 6 := ⟨_, rfl⟩
  have tz7 : z7.toInt = i.toInt + 6 := by rw [ez7]; exact add_i (y := 6) (by have p_ := i_lo i; show _ ≤ _ + (6 : Int); omega) (by have q_ := i_hi i; show _ + (6 : Int) ≤ _; omega)
  refine lv_iinc (v := z7) (lv' := [(3, .int z7), (2, .ref am), (1, .ref ax), (0, .ref b)]) hx hb dL_law_1428 hl (k := 0) rfl ez7.symm (by decide) rfl (fun ls hl => ?_)
  refine lv_goto (tgt := 18) hx hb dL_law_1431 (by decide) ?_
  exact ih g tm u3 u6 z7 H locs ls hXI3 hMJ6 (by omega) (by omega) (by omega) hP hD hS (lv_sub hl [0, 1, 2, 3] rfl)
set_option maxRecDepth 100000 in
theorem wm_L_23 : Cond.methodLink RL 23 yX9_village ∈ gw := gm (List.mem_of_getElem? (i := 579) (by decide +kernel)) rfl
set_option maxRecDepth 100000 in
theorem mi_X9_village : MI yX9_village cX9_village 2 (some .int) 0 := ⟨gm (List.mem_of_getElem? (i := 582) rfl) rfl, gm (List.mem_of_getElem? (i := 112) (by decide +kernel)) rfl, by decide, by decide, by decide +kernel⟩
set_option maxRecDepth 100000 in
theorem in_X9_village : Cond.instanceMethod yX9_village ∈ gw := gm (List.mem_of_getElem? (i := 580) (by decide +kernel)) rfl
set_option maxRecDepth 100000 in
theorem se_X9_village : Cond.selects yX9_village.cls yX9_village yX9_village ∈ gw := gm (List.mem_of_getElem? (i := 581) (by decide +kernel)) rfl
set_option maxRecDepth 100000 in
theorem wm_L_27 : Cond.methodLink RL 27 yX10_village ∈ gw := gm (List.mem_of_getElem? (i := 1464) (by decide +kernel)) rfl
set_option maxRecDepth 100000 in
theorem mi_X10_village : MI yX10_village cX10_village 2 (some .int) 0 := ⟨gm (List.mem_of_getElem? (i := 1467) rfl) rfl, gm (List.mem_of_getElem? (i := 124) (by decide +kernel)) rfl, by decide, by decide, by decide +kernel⟩
set_option maxRecDepth 100000 in
theorem in_X10_village : Cond.instanceMethod yX10_village ∈ gw := gm (List.mem_of_getElem? (i := 1465) (by decide +kernel)) rfl
set_option maxRecDepth 100000 in
theorem se_X10_village : Cond.selects yX10_village.cls yX10_village yX10_village ∈ gw := gm (List.mem_of_getElem? (i := 1466) (by decide +kernel)) rfl
set_option maxHeartbeats 8000000 in
set_option maxRecDepth 100000 in
theorem law_village {p : Program} {l : Launch} {e : Env} {s : State} {m : MethodId} {below : List Frame} {meth : Method} {c : Code} {b L ax am : Nat} {xs : Nat → Int32} {A : Nat → Prop} {G : va_G} {cI cJ cB cZ : ClassId} (hC : CallFix p m c code 4 s #[Value.ref b] gw R_law) (hr : meth.sig.returnType = ret) (hlk : meth.locks = false) (hN : NW s) (hZ : SW A s s.heap) (hK : va_K G cl (TY cI cJ cB cZ) s) (hX : va_X b L xs s s.heap) (hbl : b < s.heap.size) (hA : ∀ q, s.heap.size ≤ q → A q) (hbA : ¬ A b) (hfo : ∀ q, A q → s.heap.size ≤ q) {n : Nat} (ih : LI p l e s m below meth c b L A G cI cJ cB cZ ax am n) (g : Nat) (tm : Int) (wx wm : va_W) (i : Int32) (H : Heap) (locs : List Loc) (ls : Array Slot) (hXI : XI cI cJ cB cZ ax tm g wx) (hMJ : MJ cI cJ cB cZ am tm wm) (hi0 : 0 ≤ i.toInt) (hiL : i.toInt ≤ (L : Int) + 6) (hL : L ≤ 3072) (hm : (L : Int) + 6 - i.toInt < (n : Int) + 1) (hi6 : i.toInt + 6 ≤ (L : Int)) (hP : va_P G cl (wx ++ wm) H) (hD : va_D A (wx ++ wm)) (hS : va_S A s.heap H locs) (hl : lv_has ls 4 [(3, .int i), (2, .ref am), (1, .ref ax), (0, .ref b)]) : W p l e room_1 s m #[Value.ref b] below meth c H locs (1000 + g) (1000000 + fs g) (lw_Z below #[Value.ref b] s) (F0 m 254 ls []) := by
  obtain ⟨hx, hb, hml, hown, hts⟩ := id hC
  refine lv_aload_n hx hb dL_law_254 rfl (lv_at hl 2 rfl) ?_
  refine k_L hC hN hZ hS hA hK hP hD (xw_village l G cI cJ cB cZ hXI) mi_X9_village in_X9_village se_X9_village wm_L_23 9 rfl rfl (hXI.rc) hl.1 rfl rfl (Nat.le_of_ble_eq_true rfl) ⟨(Nat.le_of_ble_eq_true rfl), (Nat.le_of_ble_eq_true rfl)⟩ dL_law_255 ⟨rfl, rfl⟩ (gr_w0 hXI.g11) (fun r1 u1 H locs hp hP hD hS => ?_)
  have hXI1 : XI cI cJ cB cZ ax tm g u1 := hp
  have hP : va_P G cl (wm ++ u1) H := hP
  have hD : va_D A (wm ++ u1) := hD
  refine lv_pop hx hb dL_law_258 rfl ?_
  refine lv_aload_n hx hb dL_law_259 rfl (lv_at hl 1 rfl) ?_
  refine k_L hC hN hZ hS hA hK hP hD (mw_village l G cI cJ cB cZ hMJ) mi_X10_village in_X10_village se_X10_village wm_L_27 10 rfl rfl (hMJ.rc) hl.1 rfl rfl (Nat.le_of_ble_eq_true rfl) ⟨(Nat.le_of_ble_eq_true rfl), (Nat.le_of_ble_eq_true rfl)⟩ dL_law_260 ⟨rfl, rfl⟩ (gr_w0 hXI1.g11) (fun r2 u2 H locs hp hP hD hS => ?_)
  have hMJ2 : MJ cI cJ cB cZ am tm u2 := hp
  have hP : va_P G cl (u1 ++ u2) H := hP
  have hD : va_D A (u1 ++ u2) := hD
  refine lv_pop hx hb dL_law_263 rfl ?_
  refine lv_goto (tgt := 1428) hx hb dL_law_264 (by decide) ?_
  obtain ⟨z3, ez3⟩ : ∃ q : Int32, q = i + Int32.ofInt 6 := ⟨_, rfl⟩
  have tz3 : z3.toInt = i.toInt + 6 := by rw [ez3]; exact add_i (y := 6) (by have p_ := i_lo i; show _ ≤ _ + (6 : Int); omega) (by have q_ := i_hi i; show _ + (6 : Int) ≤ _; omega)
  refine lv_iinc (v := z3) (lv' := [(3, .int z3), (2, .ref am), (1, .ref ax), (0, .ref b)]) hx hb dL_law_1428 hl (k := 0) rfl ez3.symm (by decide) rfl (fun ls hl => ?_)
  refine lv_goto (tgt := 18) hx hb dL_law_1431 (by decide) ?_
  exact ih g tm u1 u2 z3 H locs ls hXI1 hMJ2 (by omega) (by omega) (by omega) hP hD hS (lv_sub hl [0, 1, 2, 3] rfl)

set_option maxRecDepth 100000 in
theorem wm_L_41 : Cond.methodLink RL 41 yX9_later ∈ gw := gm (List.mem_of_getElem? (i := 769) (by decide +kernel)) rfl
set_option maxRecDepth 100000 in
theorem mi_X9_later : MI yX9_later cX9_later 2 (some .int) 1 := ⟨gm (List.mem_of_getElem? (i := 772) rfl) rfl, gm (List.mem_of_getElem? (i := 112) (by decide +kernel)) rfl, by decide, by decide, by decide +kernel⟩
set_option maxRecDepth 100000 in
theorem in_X9_later : Cond.instanceMethod yX9_later ∈ gw := gm (List.mem_of_getElem? (i := 770) (by decide +kernel)) rfl
set_option maxRecDepth 100000 in
theorem se_X9_later : Cond.selects yX9_later.cls yX9_later yX9_later ∈ gw := gm (List.mem_of_getElem? (i := 771) (by decide +kernel)) rfl
set_option maxRecDepth 100000 in
theorem wm_L_44 : Cond.methodLink RL 44 yX10_later ∈ gw := gm (List.mem_of_getElem? (i := 1602) (by decide +kernel)) rfl
set_option maxRecDepth 100000 in
theorem mi_X10_later : MI yX10_later cX10_later 2 (some .int) 1 := ⟨gm (List.mem_of_getElem? (i := 1605) rfl) rfl, gm (List.mem_of_getElem? (i := 124) (by decide +kernel)) rfl, by decide, by decide, by decide +kernel⟩
set_option maxRecDepth 100000 in
theorem in_X10_later : Cond.instanceMethod yX10_later ∈ gw := gm (List.mem_of_getElem? (i := 1603) (by decide +kernel)) rfl
set_option maxRecDepth 100000 in
theorem se_X10_later : Cond.selects yX10_later.cls yX10_later yX10_later ∈ gw := gm (List.mem_of_getElem? (i := 1604) (by decide +kernel)) rfl
set_option maxHeartbeats 8000000 in
set_option maxRecDepth 100000 in
theorem law_later {p : Program} {l : Launch} {e : Env} {s : State} {m : MethodId} {below : List Frame} {meth : Method} {c : Code} {b L ax am : Nat} {xs : Nat → Int32} {A : Nat → Prop} {G : va_G} {cI cJ cB cZ : ClassId} (hC : CallFix p m c code 4 s #[Value.ref b] gw R_law) (hr : meth.sig.returnType = ret) (hlk : meth.locks = false) (hN : NW s) (hZ : SW A s s.heap) (hK : va_K G cl (TY cI cJ cB cZ) s) (hX : va_X b L xs s s.heap) (hbl : b < s.heap.size) (hA : ∀ q, s.heap.size ≤ q → A q) (hbA : ¬ A b) (hfo : ∀ q, A q → s.heap.size ≤ q) {n : Nat} (ih : LI p l e s m below meth c b L A G cI cJ cB cZ ax am n) (g : Nat) (tm : Int) (wx wm : va_W) (i : Int32) (H : Heap) (locs : List Loc) (ls : Array Slot) (hXI : XI cI cJ cB cZ ax tm g wx) (hMJ : MJ cI cJ cB cZ am tm wm) (hi0 : 0 ≤ i.toInt) (hiL : i.toInt ≤ (L : Int) + 6) (hL : L ≤ 3072) (hm : (L : Int) + 6 - i.toInt < (n : Int) + 1) (hi6 : i.toInt + 6 ≤ (L : Int)) (hP : va_P G cl (wx ++ wm) H) (hD : va_D A (wx ++ wm)) (hS : va_S A s.heap H locs) (hl : lv_has ls 4 [(3, .int i), (2, .ref am), (1, .ref ax), (0, .ref b)]) : W p l e room_1 s m #[Value.ref b] below meth c H locs (1000 + g) (1000000 + fs g) (lw_Z below #[Value.ref b] s) (F0 m 376 ls []) := by
  obtain ⟨hx, hb, hml, hown, hts⟩ := id hC
  refine lv_aload_n hx hb dL_law_376 rfl (lv_at hl 2 rfl) ?_
  refine lv_aload_n hx hb dL_law_377 rfl (lv_at hl 3 rfl) ?_
  refine lv_iload_n hx hb dL_law_378 rfl (lv_at hl 0 rfl) ?_
  refine lv_iconst (v := 1) hx hb dL_law_379 (by decide) ?_
  refine lv_iadd hx hb dL_law_380 ?_
  refine t_i (fun q => q.toInt = i.toInt + 1) (add_i (by show (-2147483648 : Int) ≤ i.toInt + 1; omega) (by show i.toInt + 1 ≤ (2147483647 : Int); omega)) (fun z1 tz1 => ?_)
  refine va_sld hx hb hX hbl hbA hS (i := z1) (vp_in_iff.mpr ⟨by omega, by omega⟩) dL_law_381 ?_
  refine t_i (fun q => ∀ k : Int, (z1 : Int32).toInt = k → q.toInt = gI xs k) (fun _ hk => gI_of hk) (fun z2 sx_381 => ?_)
  refine k_L hC hN hZ hS hA hK hP hD (xw_later l G cI cJ cB cZ hXI z2) mi_X9_later in_X9_later se_X9_later wm_L_41 9 rfl rfl (hXI.rc) hl.1 rfl rfl (Nat.le_of_ble_eq_true rfl) ⟨(Nat.le_of_ble_eq_true rfl), (Nat.le_of_ble_eq_true rfl)⟩ dL_law_382 ⟨rfl, rfl⟩ (gr_w0 hXI.g11) (fun r3 u3 H locs hp hP hD hS => ?_)
  obtain ⟨tm3, w3⟩ := u3
  obtain ⟨hltx, hXI3⟩ := hp
  have hltx : ltr tm z2.toInt r3.toInt tm3 := hltx
  have hXI3 : XI cI cJ cB cZ ax tm3 g w3 := hXI3
  have hP : va_P G cl (wm ++ w3) H := hP
  have hD : va_D A (wm ++ w3) := hD
  refine lv_aload_n hx hb dL_law_385 rfl (lv_at hl 1 rfl) ?_
  refine lv_aload_n hx hb dL_law_386 rfl (lv_at hl 3 rfl) ?_
  refine lv_iload_n hx hb dL_law_387 rfl (lv_at hl 0 rfl) ?_
  refine lv_iconst (v := 1) hx hb dL_law_388 (by decide) ?_
  refine lv_iadd hx hb dL_law_389 ?_
  refine t_i (fun q => q.toInt = i.toInt + 1) (add_i (by show (-2147483648 : Int) ≤ i.toInt + 1; omega) (by show i.toInt + 1 ≤ (2147483647 : Int); omega)) (fun z4 tz4 => ?_)
  refine va_sld hx hb hX hbl hbA hS (i := z4) (vp_in_iff.mpr ⟨by omega, by omega⟩) dL_law_390 ?_
  refine t_i (fun q => ∀ k : Int, (z4 : Int32).toInt = k → q.toInt = gI xs k) (fun _ hk => gI_of hk) (fun z5 sx_390 => ?_)
  refine k_L hC hN hZ hS hA hK hP hD (mw_later l G cI cJ cB cZ hMJ z5) mi_X10_later in_X10_later se_X10_later wm_L_44 10 rfl rfl (hMJ.rc) hl.1 rfl rfl (Nat.le_of_ble_eq_true rfl) ⟨(Nat.le_of_ble_eq_true rfl), (Nat.le_of_ble_eq_true rfl)⟩ dL_law_391 ⟨rfl, rfl⟩ (gr_w0 hXI3.g11) (fun r6 u6 H locs hp hP hD hS => ?_)
  obtain ⟨tm6, w6⟩ := u6
  obtain ⟨hltm, hMJ6⟩ := hp
  have hltm : ltr tm z5.toInt r6.toInt tm6 := hltm
  have hMJ6 : MJ cI cJ cB cZ am tm6 w6 := hMJ6
  have hP : va_P G cl (w3 ++ w6) H := hP
  have hD : va_D A (w3 ++ w6) := hD
  have hle_ := ltr.eq hltx hltm rfl (by rw [sx_381 (i.toInt + 1) (by omega), sx_390 (i.toInt + 1) (by omega)])
  refine lv_icmp_eq (tgt := 1428) hx hb dL_law_394 (by decide) (fun c7 => ?_) (fun c7 => ?_)
  · have dc7 : r3.toInt = r6.toInt := (fa_eq _ _).mp c7; have lbc7_0 := i_lo r3; have ubc7_0 := i_hi r3; have lbc7_1 := i_lo r6; have ubc7_1 := i_hi r6
    obtain ⟨z8, ez8⟩ : ∃ q : Int32, q = i + Int32.ofInt 6 := ⟨_, rfl⟩
    have tz8 : z8.toInt = i.toInt + 6 := by rw [ez8]; exact add_i (y := 6) (by have p_ := i_lo i; show _ ≤ _ + (6 : Int); omega) (by have q_ := i_hi i; show _ + (6 : Int) ≤ _; omega)
    refine lv_iinc (v := z8) (lv' := [(3, .int z8), (2, .ref am), (1, .ref ax), (0, .ref b)]) hx hb dL_law_1428 hl (k := 0) rfl ez8.symm (by decide) rfl (fun ls hl => ?_)
    refine lv_goto (tgt := 18) hx hb dL_law_1431 (by decide) ?_
    exact ih g tm3 w3 w6 z8 H locs ls hXI3 (hle_.2 ▸ hMJ6) (by omega) (by omega) (by omega) hP hD hS (lv_sub hl [0, 1, 2, 3] rfl)
  · have dc7 : r3.toInt ≠ r6.toInt := fa_ne c7; have lbc7_0 := i_lo r3; have ubc7_0 := i_hi r3; have lbc7_1 := i_lo r6; have ubc7_1 := i_hi r6
    exfalso; omega
set_option maxRecDepth 100000 in
theorem wm_L_50 : Cond.methodLink RL 50 yX9_fits ∈ gw := gm (List.mem_of_getElem? (i := 782) (by decide +kernel)) rfl
set_option maxRecDepth 100000 in
theorem mi_X9_fits : MI yX9_fits cX9_fits 2 (some .int) 1 := ⟨gm (List.mem_of_getElem? (i := 785) rfl) rfl, gm (List.mem_of_getElem? (i := 112) (by decide +kernel)) rfl, by decide, by decide, by decide +kernel⟩
set_option maxRecDepth 100000 in
theorem in_X9_fits : Cond.instanceMethod yX9_fits ∈ gw := gm (List.mem_of_getElem? (i := 783) (by decide +kernel)) rfl
set_option maxRecDepth 100000 in
theorem se_X9_fits : Cond.selects yX9_fits.cls yX9_fits yX9_fits ∈ gw := gm (List.mem_of_getElem? (i := 784) (by decide +kernel)) rfl
set_option maxRecDepth 100000 in
theorem wm_L_53 : Cond.methodLink RL 53 yX10_fits ∈ gw := gm (List.mem_of_getElem? (i := 1611) (by decide +kernel)) rfl
set_option maxRecDepth 100000 in
theorem mi_X10_fits : MI yX10_fits cX10_fits 2 (some .int) 1 := ⟨gm (List.mem_of_getElem? (i := 1614) rfl) rfl, gm (List.mem_of_getElem? (i := 124) (by decide +kernel)) rfl, by decide, by decide, by decide +kernel⟩
set_option maxRecDepth 100000 in
theorem in_X10_fits : Cond.instanceMethod yX10_fits ∈ gw := gm (List.mem_of_getElem? (i := 1612) (by decide +kernel)) rfl
set_option maxRecDepth 100000 in
theorem se_X10_fits : Cond.selects yX10_fits.cls yX10_fits yX10_fits ∈ gw := gm (List.mem_of_getElem? (i := 1613) (by decide +kernel)) rfl
set_option maxHeartbeats 8000000 in
set_option maxRecDepth 100000 in
theorem law_fits {p : Program} {l : Launch} {e : Env} {s : State} {m : MethodId} {below : List Frame} {meth : Method} {c : Code} {b L ax am : Nat} {xs : Nat → Int32} {A : Nat → Prop} {G : va_G} {cI cJ cB cZ : ClassId} (hC : CallFix p m c code 4 s #[Value.ref b] gw R_law) (hr : meth.sig.returnType = ret) (hlk : meth.locks = false) (hN : NW s) (hZ : SW A s s.heap) (hK : va_K G cl (TY cI cJ cB cZ) s) (hX : va_X b L xs s s.heap) (hbl : b < s.heap.size) (hA : ∀ q, s.heap.size ≤ q → A q) (hbA : ¬ A b) (hfo : ∀ q, A q → s.heap.size ≤ q) {n : Nat} (ih : LI p l e s m below meth c b L A G cI cJ cB cZ ax am n) (g : Nat) (tm : Int) (wx wm : va_W) (i : Int32) (H : Heap) (locs : List Loc) (ls : Array Slot) (hXI : XI cI cJ cB cZ ax tm g wx) (hMJ : MJ cI cJ cB cZ am tm wm) (hi0 : 0 ≤ i.toInt) (hiL : i.toInt ≤ (L : Int) + 6) (hL : L ≤ 3072) (hm : (L : Int) + 6 - i.toInt < (n : Int) + 1) (hi6 : i.toInt + 6 ≤ (L : Int)) (hP : va_P G cl (wx ++ wm) H) (hD : va_D A (wx ++ wm)) (hS : va_S A s.heap H locs) (hl : lv_has ls 4 [(3, .int i), (2, .ref am), (1, .ref ax), (0, .ref b)]) : W p l e room_1 s m #[Value.ref b] below meth c H locs (1000 + g) (1000000 + fs g) (lw_Z below #[Value.ref b] s) (F0 m 448 ls []) := by
  obtain ⟨hx, hb, hml, hown, hts⟩ := id hC
  refine lv_aload_n hx hb dL_law_448 rfl (lv_at hl 2 rfl) ?_
  refine lv_aload_n hx hb dL_law_449 rfl (lv_at hl 3 rfl) ?_
  refine lv_iload_n hx hb dL_law_450 rfl (lv_at hl 0 rfl) ?_
  refine lv_iconst (v := 1) hx hb dL_law_451 (by decide) ?_
  refine lv_iadd hx hb dL_law_452 ?_
  refine t_i (fun q => q.toInt = i.toInt + 1) (add_i (by show (-2147483648 : Int) ≤ i.toInt + 1; omega) (by show i.toInt + 1 ≤ (2147483647 : Int); omega)) (fun z1 tz1 => ?_)
  refine va_sld hx hb hX hbl hbA hS (i := z1) (vp_in_iff.mpr ⟨by omega, by omega⟩) dL_law_453 ?_
  refine t_i (fun q => ∀ k : Int, (z1 : Int32).toInt = k → q.toInt = gI xs k) (fun _ hk => gI_of hk) (fun z2 sx_453 => ?_)
  refine W.know (fun hgr => ?_)
  refine k_LG hC hN hZ hS hA hK hP hD (xw_fits l G cI cJ cB cZ hXI z2) mi_X9_fits in_X9_fits se_X9_fits wm_L_50 9 rfl rfl (hXI.rc) hl.1 rfl rfl (Nat.le_of_ble_eq_true rfl) ⟨(Nat.le_of_ble_eq_true rfl), (Nat.le_of_ble_eq_true rfl)⟩ dL_law_454 (gr_wG hXI.g11) (fun r3 u3 H locs hp hP hD hS hgn => ?_)
  obtain ⟨g3, w3⟩ := u3
  obtain ⟨hXI3, hgg⟩ := hp
  have hXI3 : XI cI cJ cB cZ ax tm g3 w3 := hXI3
  have hgg : g ≤ g3 := hgg
  refine W.tight (k := 1000 + g3) (n := 1000000 + fs g3) (GR.tr4 hgr hgn hgg) ?_
  have hP : va_P G cl (wm ++ w3) H := hP
  have hD : va_D A (wm ++ w3) := hD
  refine lv_pop hx hb dL_law_457 rfl ?_
  refine lv_aload_n hx hb dL_law_458 rfl (lv_at hl 1 rfl) ?_
  refine lv_aload_n hx hb dL_law_459 rfl (lv_at hl 3 rfl) ?_
  refine lv_iload_n hx hb dL_law_460 rfl (lv_at hl 0 rfl) ?_
  refine lv_iconst (v := 1) hx hb dL_law_461 (by decide) ?_
  refine lv_iadd hx hb dL_law_462 ?_
  refine t_i (fun q => q.toInt = i.toInt + 1) (add_i (by show (-2147483648 : Int) ≤ i.toInt + 1; omega) (by show i.toInt + 1 ≤ (2147483647 : Int); omega)) (fun z4 tz4 => ?_)
  refine va_sld hx hb hX hbl hbA hS (i := z4) (vp_in_iff.mpr ⟨by omega, by omega⟩) dL_law_463 ?_
  refine t_i (fun q => ∀ k : Int, (z4 : Int32).toInt = k → q.toInt = gI xs k) (fun _ hk => gI_of hk) (fun z5 sx_463 => ?_)
  refine k_L hC hN hZ hS hA hK hP hD (mw_fits l G cI cJ cB cZ hMJ z5) mi_X10_fits in_X10_fits se_X10_fits wm_L_53 10 rfl rfl (hMJ.rc) hl.1 rfl rfl (Nat.le_of_ble_eq_true rfl) ⟨(Nat.le_of_ble_eq_true rfl), (Nat.le_of_ble_eq_true rfl)⟩ dL_law_464 ⟨rfl, rfl⟩ (gr_w0 hXI3.g11) (fun r6 u6 H locs hp hP hD hS => ?_)
  have hMJ6 : MJ cI cJ cB cZ am tm u6 := hp
  have hP : va_P G cl (w3 ++ u6) H := hP
  have hD : va_D A (w3 ++ u6) := hD
  refine lv_pop hx hb dL_law_467 rfl ?_
  refine lv_goto (tgt := 1428) hx hb dL_law_468 (by decide) ?_
  obtain ⟨z7, ez7⟩ : ∃ q : Int32, q = i + Int32.ofInt 6 := ⟨_, rfl⟩
  have tz7 : z7.toInt = i.toInt + 6 := by rw [ez7]; exact add_i (y := 6) (by have p_ := i_lo i; show _ ≤ _ + (6 : Int); omega) (by have q_ := i_hi i; show _ + (6 : Int) ≤ _; omega)
  refine lv_iinc (v := z7) (lv' := [(3, .int z7), (2, .ref am), (1, .ref ax), (0, .ref b)]) hx hb dL_law_1428 hl (k := 0) rfl ez7.symm (by decide) rfl (fun ls hl => ?_)
  refine lv_goto (tgt := 18) hx hb dL_law_1431 (by decide) ?_
  exact ih g3 tm w3 u6 z7 H locs ls hXI3 hMJ6 (by omega) (by omega) (by omega) hP hD hS (lv_sub hl [0, 1, 2, 3] rfl)
set_option maxRecDepth 100000 in
theorem wm_L_13 : Cond.methodLink RL 13 yX9_feed ∈ gw := gm (List.mem_of_getElem? (i := 567) (by decide +kernel)) rfl
set_option maxRecDepth 100000 in
theorem mi_X9_feed : MI yX9_feed cX9_feed 7 (some .int) 5 := ⟨gm (List.mem_of_getElem? (i := 570) rfl) rfl, gm (List.mem_of_getElem? (i := 112) (by decide +kernel)) rfl, by decide, by decide, by decide +kernel⟩
set_option maxRecDepth 100000 in
theorem in_X9_feed : Cond.instanceMethod yX9_feed ∈ gw := gm (List.mem_of_getElem? (i := 568) (by decide +kernel)) rfl
set_option maxRecDepth 100000 in
theorem se_X9_feed : Cond.selects yX9_feed.cls yX9_feed yX9_feed ∈ gw := gm (List.mem_of_getElem? (i := 569) (by decide +kernel)) rfl
set_option maxRecDepth 100000 in
theorem wm_L_17 : Cond.methodLink RL 17 yX10_feed ∈ gw := gm (List.mem_of_getElem? (i := 1858) (by decide +kernel)) rfl
set_option maxRecDepth 100000 in
theorem mi_X10_feed : MI yX10_feed cX10_feed 8 (some .int) 5 := ⟨gm (List.mem_of_getElem? (i := 1861) rfl) rfl, gm (List.mem_of_getElem? (i := 124) (by decide +kernel)) rfl, by decide, by decide, by decide +kernel⟩
set_option maxRecDepth 100000 in
theorem in_X10_feed : Cond.instanceMethod yX10_feed ∈ gw := gm (List.mem_of_getElem? (i := 1859) (by decide +kernel)) rfl
set_option maxRecDepth 100000 in
theorem se_X10_feed : Cond.selects yX10_feed.cls yX10_feed yX10_feed ∈ gw := gm (List.mem_of_getElem? (i := 1860) (by decide +kernel)) rfl
set_option maxHeartbeats 8000000 in
set_option maxRecDepth 100000 in
theorem law_feed {p : Program} {l : Launch} {e : Env} {s : State} {m : MethodId} {below : List Frame} {meth : Method} {c : Code} {b L ax am : Nat} {xs : Nat → Int32} {A : Nat → Prop} {G : va_G} {cI cJ cB cZ : ClassId} (hC : CallFix p m c code 4 s #[Value.ref b] gw R_law) (hr : meth.sig.returnType = ret) (hlk : meth.locks = false) (hN : NW s) (hZ : SW A s s.heap) (hK : va_K G cl (TY cI cJ cB cZ) s) (hX : va_X b L xs s s.heap) (hbl : b < s.heap.size) (hA : ∀ q, s.heap.size ≤ q → A q) (hbA : ¬ A b) (hfo : ∀ q, A q → s.heap.size ≤ q) {n : Nat} (ih : LI p l e s m below meth c b L A G cI cJ cB cZ ax am n) (g : Nat) (tm : Int) (wx wm : va_W) (i : Int32) (H : Heap) (locs : List Loc) (ls : Array Slot) (hXI : XI cI cJ cB cZ ax tm g wx) (hMJ : MJ cI cJ cB cZ am tm wm) (hi0 : 0 ≤ i.toInt) (hiL : i.toInt ≤ (L : Int) + 6) (hL : L ≤ 3072) (hm : (L : Int) + 6 - i.toInt < (n : Int) + 1) (hi6 : i.toInt + 6 ≤ (L : Int)) (hP : va_P G cl (wx ++ wm) H) (hD : va_D A (wx ++ wm)) (hS : va_S A s.heap H locs) (hl : lv_has ls 4 [(3, .int i), (2, .ref am), (1, .ref ax), (0, .ref b)]) : W p l e room_1 s m #[Value.ref b] below meth c H locs (1000 + g) (1000000 + fs g) (lw_Z below #[Value.ref b] s) (F0 m 168 ls []) := by
  obtain ⟨hx, hb, hml, hown, hts⟩ := id hC
  refine lv_aload_n hx hb dL_law_168 rfl (lv_at hl 2 rfl) ?_
  refine lv_aload_n hx hb dL_law_169 rfl (lv_at hl 3 rfl) ?_
  refine lv_iload_n hx hb dL_law_170 rfl (lv_at hl 0 rfl) ?_
  refine lv_iconst (v := 1) hx hb dL_law_171 (by decide) ?_
  refine lv_iadd hx hb dL_law_172 ?_
  refine t_i (fun q => q.toInt = i.toInt + 1) (add_i (by show (-2147483648 : Int) ≤ i.toInt + 1; omega) (by show i.toInt + 1 ≤ (2147483647 : Int); omega)) (fun z1 tz1 => ?_)
  refine va_sld hx hb hX hbl hbA hS (i := z1) (vp_in_iff.mpr ⟨by omega, by omega⟩) dL_law_173 ?_
  refine t_i (fun q => ∀ k : Int, (z1 : Int32).toInt = k → q.toInt = gI xs k) (fun _ hk => gI_of hk) (fun z2 sx_173 => ?_)
  refine lv_aload_n hx hb dL_law_174 rfl (lv_at hl 3 rfl) ?_
  refine lv_iload_n hx hb dL_law_175 rfl (lv_at hl 0 rfl) ?_
  refine lv_iconst (v := 2) hx hb dL_law_176 (by decide) ?_
  refine lv_iadd hx hb dL_law_177 ?_
  refine t_i (fun q => q.toInt = i.toInt + 2) (add_i (by show (-2147483648 : Int) ≤ i.toInt + 2; omega) (by show i.toInt + 2 ≤ (2147483647 : Int); omega)) (fun z3 tz3 => ?_)
  refine va_sld hx hb hX hbl hbA hS (i := z3) (vp_in_iff.mpr ⟨by omega, by omega⟩) dL_law_178 ?_
  refine t_i (fun q => ∀ k : Int, (z3 : Int32).toInt = k → q.toInt = gI xs k) (fun _ hk => gI_of hk) (fun z4 sx_178 => ?_)
  refine lv_aload_n hx hb dL_law_179 rfl (lv_at hl 3 rfl) ?_
  refine lv_iload_n hx hb dL_law_180 rfl (lv_at hl 0 rfl) ?_
  refine lv_iconst (v := 3) hx hb dL_law_181 (by decide) ?_
  refine lv_iadd hx hb dL_law_182 ?_
  refine t_i (fun q => q.toInt = i.toInt + 3) (add_i (by show (-2147483648 : Int) ≤ i.toInt + 3; omega) (by show i.toInt + 3 ≤ (2147483647 : Int); omega)) (fun z5 tz5 => ?_)
  refine va_sld hx hb hX hbl hbA hS (i := z5) (vp_in_iff.mpr ⟨by omega, by omega⟩) dL_law_183 ?_
  refine t_i (fun q => ∀ k : Int, (z5 : Int32).toInt = k → q.toInt = gI xs k) (fun _ hk => gI_of hk) (fun z6 sx_183 => ?_)
  refine lv_aload_n hx hb dL_law_184 rfl (lv_at hl 3 rfl) ?_
  refine lv_iload_n hx hb dL_law_185 rfl (lv_at hl 0 rfl) ?_
  refine lv_iconst (v := 4) hx hb dL_law_186 (by decide) ?_
  refine lv_iadd hx hb dL_law_187 ?_
  refine t_i (fun q => q.toInt = i.toInt + 4) (add_i (by show (-2147483648 : Int) ≤ i.toInt + 4; omega) (by show i.toInt + 4 ≤ (2147483647 : Int); omega)) (fun z7 tz7 => ?_)
  refine va_sld hx hb hX hbl hbA hS (i := z7) (vp_in_iff.mpr ⟨by omega, by omega⟩) dL_law_188 ?_
  refine t_i (fun q => ∀ k : Int, (z7 : Int32).toInt = k → q.toInt = gI xs k) (fun _ hk => gI_of hk) (fun z8 sx_188 => ?_)
  refine lv_aload_n hx hb dL_law_189 rfl (lv_at hl 3 rfl) ?_
  refine lv_iload_n hx hb dL_law_190 rfl (lv_at hl 0 rfl) ?_
  refine lv_iconst (v := 5) hx hb dL_law_191 (by decide) ?_
  refine lv_iadd hx hb dL_law_192 ?_
  refine t_i (fun q => q.toInt = i.toInt + 5) (add_i (by show (-2147483648 : Int) ≤ i.toInt + 5; omega) (by show i.toInt + 5 ≤ (2147483647 : Int); omega)) (fun z9 tz9 => ?_)
  refine va_sld hx hb hX hbl hbA hS (i := z9) (vp_in_iff.mpr ⟨by omega, by omega⟩) dL_law_193 ?_
  refine t_i (fun q => ∀ k : Int, (z9 : Int32).toInt = k → q.toInt = gI xs k) (fun _ hk => gI_of hk) (fun z10 sx_193 => ?_)
  refine k_L hC hN hZ hS hA hK hP hD (xw_feed l G cI cJ cB cZ hXI z2 z4 z6 z8 z10) mi_X9_feed in_X9_feed se_X9_feed wm_L_13 9 rfl rfl (hXI.rc) hl.1 rfl rfl (Nat.le_of_ble_eq_true rfl) ⟨(Nat.le_of_ble_eq_true rfl), (Nat.le_of_ble_eq_true rfl)⟩ dL_law_194 ⟨rfl, rfl⟩ (gr_w0 hXI.g11) (fun r11 u11 H locs hp hP hD hS => ?_)
  have hXI11 : XI cI cJ cB cZ ax tm g u11 := hp
  have hP : va_P G cl (wm ++ u11) H := hP
  have hD : va_D A (wm ++ u11) := hD
  refine lv_pop hx hb dL_law_197 rfl ?_
  refine lv_aload_n hx hb dL_law_198 rfl (lv_at hl 1 rfl) ?_
  refine lv_aload_n hx hb dL_law_199 rfl (lv_at hl 3 rfl) ?_
  refine lv_iload_n hx hb dL_law_200 rfl (lv_at hl 0 rfl) ?_
  refine lv_iconst (v := 1) hx hb dL_law_201 (by decide) ?_
  refine lv_iadd hx hb dL_law_202 ?_
  refine t_i (fun q => q.toInt = i.toInt + 1) (add_i (by show (-2147483648 : Int) ≤ i.toInt + 1; omega) (by show i.toInt + 1 ≤ (2147483647 : Int); omega)) (fun z12 tz12 => ?_)
  refine va_sld hx hb hX hbl hbA hS (i := z12) (vp_in_iff.mpr ⟨by omega, by omega⟩) dL_law_203 ?_
  refine t_i (fun q => ∀ k : Int, (z12 : Int32).toInt = k → q.toInt = gI xs k) (fun _ hk => gI_of hk) (fun z13 sx_203 => ?_)
  refine lv_aload_n hx hb dL_law_204 rfl (lv_at hl 3 rfl) ?_
  refine lv_iload_n hx hb dL_law_205 rfl (lv_at hl 0 rfl) ?_
  refine lv_iconst (v := 2) hx hb dL_law_206 (by decide) ?_
  refine lv_iadd hx hb dL_law_207 ?_
  refine t_i (fun q => q.toInt = i.toInt + 2) (add_i (by show (-2147483648 : Int) ≤ i.toInt + 2; omega) (by show i.toInt + 2 ≤ (2147483647 : Int); omega)) (fun z14 tz14 => ?_)
  refine va_sld hx hb hX hbl hbA hS (i := z14) (vp_in_iff.mpr ⟨by omega, by omega⟩) dL_law_208 ?_
  refine t_i (fun q => ∀ k : Int, (z14 : Int32).toInt = k → q.toInt = gI xs k) (fun _ hk => gI_of hk) (fun z15 sx_208 => ?_)
  refine lv_aload_n hx hb dL_law_209 rfl (lv_at hl 3 rfl) ?_
  refine lv_iload_n hx hb dL_law_210 rfl (lv_at hl 0 rfl) ?_
  refine lv_iconst (v := 3) hx hb dL_law_211 (by decide) ?_
  refine lv_iadd hx hb dL_law_212 ?_
  refine t_i (fun q => q.toInt = i.toInt + 3) (add_i (by show (-2147483648 : Int) ≤ i.toInt + 3; omega) (by show i.toInt + 3 ≤ (2147483647 : Int); omega)) (fun z16 tz16 => ?_)
  refine va_sld hx hb hX hbl hbA hS (i := z16) (vp_in_iff.mpr ⟨by omega, by omega⟩) dL_law_213 ?_
  refine t_i (fun q => ∀ k : Int, (z16 : Int32).toInt = k → q.toInt = gI xs k) (fun _ hk => gI_of hk) (fun z17 sx_213 => ?_)
  refine lv_aload_n hx hb dL_law_214 rfl (lv_at hl 3 rfl) ?_
  refine lv_iload_n hx hb dL_law_215 rfl (lv_at hl 0 rfl) ?_
  refine lv_iconst (v := 4) hx hb dL_law_216 (by decide) ?_
  refine lv_iadd hx hb dL_law_217 ?_
  refine t_i (fun q => q.toInt = i.toInt + 4) (add_i (by show (-2147483648 : Int) ≤ i.toInt + 4; omega) (by show i.toInt + 4 ≤ (2147483647 : Int); omega)) (fun z18 tz18 => ?_)
  refine va_sld hx hb hX hbl hbA hS (i := z18) (vp_in_iff.mpr ⟨by omega, by omega⟩) dL_law_218 ?_
  refine t_i (fun q => ∀ k : Int, (z18 : Int32).toInt = k → q.toInt = gI xs k) (fun _ hk => gI_of hk) (fun z19 sx_218 => ?_)
  refine lv_aload_n hx hb dL_law_219 rfl (lv_at hl 3 rfl) ?_
  refine lv_iload_n hx hb dL_law_220 rfl (lv_at hl 0 rfl) ?_
  refine lv_iconst (v := 5) hx hb dL_law_221 (by decide) ?_
  refine lv_iadd hx hb dL_law_222 ?_
  refine t_i (fun q => q.toInt = i.toInt + 5) (add_i (by show (-2147483648 : Int) ≤ i.toInt + 5; omega) (by show i.toInt + 5 ≤ (2147483647 : Int); omega)) (fun z20 tz20 => ?_)
  refine va_sld hx hb hX hbl hbA hS (i := z20) (vp_in_iff.mpr ⟨by omega, by omega⟩) dL_law_223 ?_
  refine t_i (fun q => ∀ k : Int, (z20 : Int32).toInt = k → q.toInt = gI xs k) (fun _ hk => gI_of hk) (fun z21 sx_223 => ?_)
  refine k_L hC hN hZ hS hA hK hP hD (mw_feed l G cI cJ cB cZ hMJ z13 z15 z17 z19 z21) mi_X10_feed in_X10_feed se_X10_feed wm_L_17 10 rfl rfl (hMJ.rc) hl.1 rfl rfl (Nat.le_of_ble_eq_true rfl) ⟨(Nat.le_of_ble_eq_true rfl), (Nat.le_of_ble_eq_true rfl)⟩ dL_law_224 ⟨rfl, rfl⟩ (gr_w0 hXI11.g11) (fun r22 u22 H locs hp hP hD hS => ?_)
  have hMJ22 : MJ cI cJ cB cZ am tm u22 := hp
  have hP : va_P G cl (u11 ++ u22) H := hP
  have hD : va_D A (u11 ++ u22) := hD
  refine lv_pop hx hb dL_law_227 rfl ?_
  refine lv_goto (tgt := 1428) hx hb dL_law_228 (by decide) ?_
  obtain ⟨z23, ez23⟩ : ∃ q : Int32, q = i + Int32.ofInt 6 := ⟨_, rfl⟩
  have tz23 : z23.toInt = i.toInt + 6 := by rw [ez23]; exact add_i (y := 6) (by have p_ := i_lo i; show _ ≤ _ + (6 : Int); omega) (by have q_ := i_hi i; show _ + (6 : Int) ≤ _; omega)
  refine lv_iinc (v := z23) (lv' := [(3, .int z23), (2, .ref am), (1, .ref ax), (0, .ref b)]) hx hb dL_law_1428 hl (k := 0) rfl ez23.symm (by decide) rfl (fun ls hl => ?_)
  refine lv_goto (tgt := 18) hx hb dL_law_1431 (by decide) ?_
  exact ih g tm u11 u22 z23 H locs ls hXI11 hMJ22 (by omega) (by omega) (by omega) hP hD hS (lv_sub hl [0, 1, 2, 3] rfl)
set_option maxRecDepth 100000 in
theorem wm_L_28 : Cond.methodLink RL 28 yX9_fault ∈ gw := gm (List.mem_of_getElem? (i := 734) (by decide +kernel)) rfl
set_option maxRecDepth 100000 in
theorem mi_X9_fault : MI yX9_fault cX9_fault 2 (some .int) 1 := ⟨gm (List.mem_of_getElem? (i := 737) rfl) rfl, gm (List.mem_of_getElem? (i := 112) (by decide +kernel)) rfl, by decide, by decide, by decide +kernel⟩
set_option maxRecDepth 100000 in
theorem in_X9_fault : Cond.instanceMethod yX9_fault ∈ gw := gm (List.mem_of_getElem? (i := 735) (by decide +kernel)) rfl
set_option maxRecDepth 100000 in
theorem se_X9_fault : Cond.selects yX9_fault.cls yX9_fault yX9_fault ∈ gw := gm (List.mem_of_getElem? (i := 736) (by decide +kernel)) rfl
set_option maxRecDepth 100000 in
theorem wm_L_31 : Cond.methodLink RL 31 yX10_fault ∈ gw := gm (List.mem_of_getElem? (i := 1575) (by decide +kernel)) rfl
set_option maxRecDepth 100000 in
theorem mi_X10_fault : MI yX10_fault cX10_fault 2 (some .int) 1 := ⟨gm (List.mem_of_getElem? (i := 1578) rfl) rfl, gm (List.mem_of_getElem? (i := 124) (by decide +kernel)) rfl, by decide, by decide, by decide +kernel⟩
set_option maxRecDepth 100000 in
theorem in_X10_fault : Cond.instanceMethod yX10_fault ∈ gw := gm (List.mem_of_getElem? (i := 1576) (by decide +kernel)) rfl
set_option maxRecDepth 100000 in
theorem se_X10_fault : Cond.selects yX10_fault.cls yX10_fault yX10_fault ∈ gw := gm (List.mem_of_getElem? (i := 1577) (by decide +kernel)) rfl
set_option maxHeartbeats 8000000 in
set_option maxRecDepth 100000 in
theorem law_fault {p : Program} {l : Launch} {e : Env} {s : State} {m : MethodId} {below : List Frame} {meth : Method} {c : Code} {b L ax am : Nat} {xs : Nat → Int32} {A : Nat → Prop} {G : va_G} {cI cJ cB cZ : ClassId} (hC : CallFix p m c code 4 s #[Value.ref b] gw R_law) (hr : meth.sig.returnType = ret) (hlk : meth.locks = false) (hN : NW s) (hZ : SW A s s.heap) (hK : va_K G cl (TY cI cJ cB cZ) s) (hX : va_X b L xs s s.heap) (hbl : b < s.heap.size) (hA : ∀ q, s.heap.size ≤ q → A q) (hbA : ¬ A b) (hfo : ∀ q, A q → s.heap.size ≤ q) {n : Nat} (ih : LI p l e s m below meth c b L A G cI cJ cB cZ ax am n) (g : Nat) (tm : Int) (wx wm : va_W) (i : Int32) (H : Heap) (locs : List Loc) (ls : Array Slot) (hXI : XI cI cJ cB cZ ax tm g wx) (hMJ : MJ cI cJ cB cZ am tm wm) (hi0 : 0 ≤ i.toInt) (hiL : i.toInt ≤ (L : Int) + 6) (hL : L ≤ 3072) (hm : (L : Int) + 6 - i.toInt < (n : Int) + 1) (hi6 : i.toInt + 6 ≤ (L : Int)) (hP : va_P G cl (wx ++ wm) H) (hD : va_D A (wx ++ wm)) (hS : va_S A s.heap H locs) (hl : lv_has ls 4 [(3, .int i), (2, .ref am), (1, .ref ax), (0, .ref b)]) : W p l e room_1 s m #[Value.ref b] below meth c H locs (1000 + g) (1000000 + fs g) (lw_Z below #[Value.ref b] s) (F0 m 267 ls []) := by
  obtain ⟨hx, hb, hml, hown, hts⟩ := id hC
  refine lv_aload_n hx hb dL_law_267 rfl (lv_at hl 2 rfl) ?_
  refine lv_aload_n hx hb dL_law_268 rfl (lv_at hl 3 rfl) ?_
  refine lv_iload_n hx hb dL_law_269 rfl (lv_at hl 0 rfl) ?_
  refine lv_iconst (v := 1) hx hb dL_law_270 (by decide) ?_
  refine lv_iadd hx hb dL_law_271 ?_
  refine t_i (fun q => q.toInt = i.toInt + 1) (add_i (by show (-2147483648 : Int) ≤ i.toInt + 1; omega) (by show i.toInt + 1 ≤ (2147483647 : Int); omega)) (fun z1 tz1 => ?_)
  refine va_sld hx hb hX hbl hbA hS (i := z1) (vp_in_iff.mpr ⟨by omega, by omega⟩) dL_law_272 ?_
  refine t_i (fun q => ∀ k : Int, (z1 : Int32).toInt = k → q.toInt = gI xs k) (fun _ hk => gI_of hk) (fun z2 sx_272 => ?_)
  refine k_L hC hN hZ hS hA hK hP hD (xw_fault l G cI cJ cB cZ hXI z2) mi_X9_fault in_X9_fault se_X9_fault wm_L_28 9 rfl rfl (hXI.rc) hl.1 rfl rfl (Nat.le_of_ble_eq_true rfl) ⟨(Nat.le_of_ble_eq_true rfl), (Nat.le_of_ble_eq_true rfl)⟩ dL_law_273 ⟨rfl, rfl⟩ (gr_w0 hXI.g11) (fun r3 u3 H locs hp hP hD hS => ?_)
  have hXI3 : XI cI cJ cB cZ ax tm g u3 := hp
  have hP : va_P G cl (wm ++ u3) H := hP
  have hD : va_D A (wm ++ u3) := hD
  refine lv_pop hx hb dL_law_276 rfl ?_
  refine lv_aload_n hx hb dL_law_277 rfl (lv_at hl 1 rfl) ?_
  refine lv_aload_n hx hb dL_law_278 rfl (lv_at hl 3 rfl) ?_
  refine lv_iload_n hx hb dL_law_279 rfl (lv_at hl 0 rfl) ?_
  refine lv_iconst (v := 1) hx hb dL_law_280 (by decide) ?_
  refine lv_iadd hx hb dL_law_281 ?_
  refine t_i (fun q => q.toInt = i.toInt + 1) (add_i (by show (-2147483648 : Int) ≤ i.toInt + 1; omega) (by show i.toInt + 1 ≤ (2147483647 : Int); omega)) (fun z4 tz4 => ?_)
  refine va_sld hx hb hX hbl hbA hS (i := z4) (vp_in_iff.mpr ⟨by omega, by omega⟩) dL_law_282 ?_
  refine t_i (fun q => ∀ k : Int, (z4 : Int32).toInt = k → q.toInt = gI xs k) (fun _ hk => gI_of hk) (fun z5 sx_282 => ?_)
  refine k_L hC hN hZ hS hA hK hP hD (mw_fault l G cI cJ cB cZ hMJ z5) mi_X10_fault in_X10_fault se_X10_fault wm_L_31 10 rfl rfl (hMJ.rc) hl.1 rfl rfl (Nat.le_of_ble_eq_true rfl) ⟨(Nat.le_of_ble_eq_true rfl), (Nat.le_of_ble_eq_true rfl)⟩ dL_law_283 ⟨rfl, rfl⟩ (gr_w0 hXI3.g11) (fun r6 u6 H locs hp hP hD hS => ?_)
  have hMJ6 : MJ cI cJ cB cZ am tm u6 := hp
  have hP : va_P G cl (u3 ++ u6) H := hP
  have hD : va_D A (u3 ++ u6) := hD
  refine lv_pop hx hb dL_law_286 rfl ?_
  refine lv_goto (tgt := 1428) hx hb dL_law_287 (by decide) ?_
  obtain ⟨z7, ez7⟩ : ∃ q : Int32, q = i + Int32.ofInt 6 := ⟨_, rfl⟩
  have tz7 : z7.toInt = i.toInt + 6 := by rw [ez7]; exact add_i (y := 6) (by have p_ := i_lo i; show _ ≤ _ + (6 : Int); omega) (by have q_ := i_hi i; show _ + (6 : Int) ≤ _; omega)
  refine lv_iinc (v := z7) (lv' := [(3, .int z7), (2, .ref am), (1, .ref ax), (0, .ref b)]) hx hb dL_law_1428 hl (k := 0) rfl ez7.symm (by decide) rfl (fun ls hl => ?_)
  refine lv_goto (tgt := 18) hx hb dL_law_1431 (by decide) ?_
  exact ih g tm u3 u6 z7 H locs ls hXI3 hMJ6 (by omega) (by omega) (by omega) hP hD hS (lv_sub hl [0, 1, 2, 3] rfl)
set_option maxRecDepth 100000 in
theorem wm_L_32 : Cond.methodLink RL 32 yX9_weighed ∈ gw := gm (List.mem_of_getElem? (i := 738) (by decide +kernel)) rfl
set_option maxRecDepth 100000 in
theorem mi_X9_weighed : MI yX9_weighed cX9_weighed 7 (some .int) 5 := ⟨gm (List.mem_of_getElem? (i := 741) rfl) rfl, gm (List.mem_of_getElem? (i := 112) (by decide +kernel)) rfl, by decide, by decide, by decide +kernel⟩
set_option maxRecDepth 100000 in
theorem in_X9_weighed : Cond.instanceMethod yX9_weighed ∈ gw := gm (List.mem_of_getElem? (i := 739) (by decide +kernel)) rfl
set_option maxRecDepth 100000 in
theorem se_X9_weighed : Cond.selects yX9_weighed.cls yX9_weighed yX9_weighed ∈ gw := gm (List.mem_of_getElem? (i := 740) (by decide +kernel)) rfl
set_option maxRecDepth 100000 in
theorem wm_L_35 : Cond.methodLink RL 35 yX10_weighed ∈ gw := gm (List.mem_of_getElem? (i := 1579) (by decide +kernel)) rfl
set_option maxRecDepth 100000 in
theorem mi_X10_weighed : MI yX10_weighed cX10_weighed 7 (some .int) 5 := ⟨gm (List.mem_of_getElem? (i := 1582) rfl) rfl, gm (List.mem_of_getElem? (i := 124) (by decide +kernel)) rfl, by decide, by decide, by decide +kernel⟩
set_option maxRecDepth 100000 in
theorem in_X10_weighed : Cond.instanceMethod yX10_weighed ∈ gw := gm (List.mem_of_getElem? (i := 1580) (by decide +kernel)) rfl
set_option maxRecDepth 100000 in
theorem se_X10_weighed : Cond.selects yX10_weighed.cls yX10_weighed yX10_weighed ∈ gw := gm (List.mem_of_getElem? (i := 1581) (by decide +kernel)) rfl
set_option maxHeartbeats 8000000 in
set_option maxRecDepth 100000 in
theorem law_weighed {p : Program} {l : Launch} {e : Env} {s : State} {m : MethodId} {below : List Frame} {meth : Method} {c : Code} {b L ax am : Nat} {xs : Nat → Int32} {A : Nat → Prop} {G : va_G} {cI cJ cB cZ : ClassId} (hC : CallFix p m c code 4 s #[Value.ref b] gw R_law) (hr : meth.sig.returnType = ret) (hlk : meth.locks = false) (hN : NW s) (hZ : SW A s s.heap) (hK : va_K G cl (TY cI cJ cB cZ) s) (hX : va_X b L xs s s.heap) (hbl : b < s.heap.size) (hA : ∀ q, s.heap.size ≤ q → A q) (hbA : ¬ A b) (hfo : ∀ q, A q → s.heap.size ≤ q) {n : Nat} (ih : LI p l e s m below meth c b L A G cI cJ cB cZ ax am n) (g : Nat) (tm : Int) (wx wm : va_W) (i : Int32) (H : Heap) (locs : List Loc) (ls : Array Slot) (hXI : XI cI cJ cB cZ ax tm g wx) (hMJ : MJ cI cJ cB cZ am tm wm) (hi0 : 0 ≤ i.toInt) (hiL : i.toInt ≤ (L : Int) + 6) (hL : L ≤ 3072) (hm : (L : Int) + 6 - i.toInt < (n : Int) + 1) (hi6 : i.toInt + 6 ≤ (L : Int)) (hP : va_P G cl (wx ++ wm) H) (hD : va_D A (wx ++ wm)) (hS : va_S A s.heap H locs) (hl : lv_has ls 4 [(3, .int i), (2, .ref am), (1, .ref ax), (0, .ref b)]) : W p l e room_1 s m #[Value.ref b] below meth c H locs (1000 + g) (1000000 + fs g) (lw_Z below #[Value.ref b] s) (F0 m 290 ls []) := by
  obtain ⟨hx, hb, hml, hown, hts⟩ := id hC
  refine lv_aload_n hx hb dL_law_290 rfl (lv_at hl 2 rfl) ?_
  refine lv_aload_n hx hb dL_law_291 rfl (lv_at hl 3 rfl) ?_
  refine lv_iload_n hx hb dL_law_292 rfl (lv_at hl 0 rfl) ?_
  refine lv_iconst (v := 1) hx hb dL_law_293 (by decide) ?_
  refine lv_iadd hx hb dL_law_294 ?_
  refine t_i (fun q => q.toInt = i.toInt + 1) (add_i (by show (-2147483648 : Int) ≤ i.toInt + 1; omega) (by show i.toInt + 1 ≤ (2147483647 : Int); omega)) (fun z1 tz1 => ?_)
  refine va_sld hx hb hX hbl hbA hS (i := z1) (vp_in_iff.mpr ⟨by omega, by omega⟩) dL_law_295 ?_
  refine t_i (fun q => ∀ k : Int, (z1 : Int32).toInt = k → q.toInt = gI xs k) (fun _ hk => gI_of hk) (fun z2 sx_295 => ?_)
  refine lv_aload_n hx hb dL_law_296 rfl (lv_at hl 3 rfl) ?_
  refine lv_iload_n hx hb dL_law_297 rfl (lv_at hl 0 rfl) ?_
  refine lv_iconst (v := 2) hx hb dL_law_298 (by decide) ?_
  refine lv_iadd hx hb dL_law_299 ?_
  refine t_i (fun q => q.toInt = i.toInt + 2) (add_i (by show (-2147483648 : Int) ≤ i.toInt + 2; omega) (by show i.toInt + 2 ≤ (2147483647 : Int); omega)) (fun z3 tz3 => ?_)
  refine va_sld hx hb hX hbl hbA hS (i := z3) (vp_in_iff.mpr ⟨by omega, by omega⟩) dL_law_300 ?_
  refine t_i (fun q => ∀ k : Int, (z3 : Int32).toInt = k → q.toInt = gI xs k) (fun _ hk => gI_of hk) (fun z4 sx_300 => ?_)
  refine lv_aload_n hx hb dL_law_301 rfl (lv_at hl 3 rfl) ?_
  refine lv_iload_n hx hb dL_law_302 rfl (lv_at hl 0 rfl) ?_
  refine lv_iconst (v := 3) hx hb dL_law_303 (by decide) ?_
  refine lv_iadd hx hb dL_law_304 ?_
  refine t_i (fun q => q.toInt = i.toInt + 3) (add_i (by show (-2147483648 : Int) ≤ i.toInt + 3; omega) (by show i.toInt + 3 ≤ (2147483647 : Int); omega)) (fun z5 tz5 => ?_)
  refine va_sld hx hb hX hbl hbA hS (i := z5) (vp_in_iff.mpr ⟨by omega, by omega⟩) dL_law_305 ?_
  refine t_i (fun q => ∀ k : Int, (z5 : Int32).toInt = k → q.toInt = gI xs k) (fun _ hk => gI_of hk) (fun z6 sx_305 => ?_)
  refine lv_aload_n hx hb dL_law_306 rfl (lv_at hl 3 rfl) ?_
  refine lv_iload_n hx hb dL_law_307 rfl (lv_at hl 0 rfl) ?_
  refine lv_iconst (v := 4) hx hb dL_law_308 (by decide) ?_
  refine lv_iadd hx hb dL_law_309 ?_
  refine t_i (fun q => q.toInt = i.toInt + 4) (add_i (by show (-2147483648 : Int) ≤ i.toInt + 4; omega) (by show i.toInt + 4 ≤ (2147483647 : Int); omega)) (fun z7 tz7 => ?_)
  refine va_sld hx hb hX hbl hbA hS (i := z7) (vp_in_iff.mpr ⟨by omega, by omega⟩) dL_law_310 ?_
  refine t_i (fun q => ∀ k : Int, (z7 : Int32).toInt = k → q.toInt = gI xs k) (fun _ hk => gI_of hk) (fun z8 sx_310 => ?_)
  refine lv_aload_n hx hb dL_law_311 rfl (lv_at hl 3 rfl) ?_
  refine lv_iload_n hx hb dL_law_312 rfl (lv_at hl 0 rfl) ?_
  refine lv_iconst (v := 5) hx hb dL_law_313 (by decide) ?_
  refine lv_iadd hx hb dL_law_314 ?_
  refine t_i (fun q => q.toInt = i.toInt + 5) (add_i (by show (-2147483648 : Int) ≤ i.toInt + 5; omega) (by show i.toInt + 5 ≤ (2147483647 : Int); omega)) (fun z9 tz9 => ?_)
  refine va_sld hx hb hX hbl hbA hS (i := z9) (vp_in_iff.mpr ⟨by omega, by omega⟩) dL_law_315 ?_
  refine t_i (fun q => ∀ k : Int, (z9 : Int32).toInt = k → q.toInt = gI xs k) (fun _ hk => gI_of hk) (fun z10 sx_315 => ?_)
  refine k_L hC hN hZ hS hA hK hP hD (xw_weighed l G cI cJ cB cZ hXI z2 z4 z6 z8 z10) mi_X9_weighed in_X9_weighed se_X9_weighed wm_L_32 9 rfl rfl (hXI.rc) hl.1 rfl rfl (Nat.le_of_ble_eq_true rfl) ⟨(Nat.le_of_ble_eq_true rfl), (Nat.le_of_ble_eq_true rfl)⟩ dL_law_316 ⟨rfl, rfl⟩ (gr_w0 hXI.g11) (fun r11 u11 H locs hp hP hD hS => ?_)
  have hXI11 : XI cI cJ cB cZ ax tm g u11 := hp
  have hP : va_P G cl (wm ++ u11) H := hP
  have hD : va_D A (wm ++ u11) := hD
  refine lv_pop hx hb dL_law_319 rfl ?_
  refine lv_aload_n hx hb dL_law_320 rfl (lv_at hl 1 rfl) ?_
  refine lv_aload_n hx hb dL_law_321 rfl (lv_at hl 3 rfl) ?_
  refine lv_iload_n hx hb dL_law_322 rfl (lv_at hl 0 rfl) ?_
  refine lv_iconst (v := 1) hx hb dL_law_323 (by decide) ?_
  refine lv_iadd hx hb dL_law_324 ?_
  refine t_i (fun q => q.toInt = i.toInt + 1) (add_i (by show (-2147483648 : Int) ≤ i.toInt + 1; omega) (by show i.toInt + 1 ≤ (2147483647 : Int); omega)) (fun z12 tz12 => ?_)
  refine va_sld hx hb hX hbl hbA hS (i := z12) (vp_in_iff.mpr ⟨by omega, by omega⟩) dL_law_325 ?_
  refine t_i (fun q => ∀ k : Int, (z12 : Int32).toInt = k → q.toInt = gI xs k) (fun _ hk => gI_of hk) (fun z13 sx_325 => ?_)
  refine lv_aload_n hx hb dL_law_326 rfl (lv_at hl 3 rfl) ?_
  refine lv_iload_n hx hb dL_law_327 rfl (lv_at hl 0 rfl) ?_
  refine lv_iconst (v := 2) hx hb dL_law_328 (by decide) ?_
  refine lv_iadd hx hb dL_law_329 ?_
  refine t_i (fun q => q.toInt = i.toInt + 2) (add_i (by show (-2147483648 : Int) ≤ i.toInt + 2; omega) (by show i.toInt + 2 ≤ (2147483647 : Int); omega)) (fun z14 tz14 => ?_)
  refine va_sld hx hb hX hbl hbA hS (i := z14) (vp_in_iff.mpr ⟨by omega, by omega⟩) dL_law_330 ?_
  refine t_i (fun q => ∀ k : Int, (z14 : Int32).toInt = k → q.toInt = gI xs k) (fun _ hk => gI_of hk) (fun z15 sx_330 => ?_)
  refine lv_aload_n hx hb dL_law_331 rfl (lv_at hl 3 rfl) ?_
  refine lv_iload_n hx hb dL_law_332 rfl (lv_at hl 0 rfl) ?_
  refine lv_iconst (v := 3) hx hb dL_law_333 (by decide) ?_
  refine lv_iadd hx hb dL_law_334 ?_
  refine t_i (fun q => q.toInt = i.toInt + 3) (add_i (by show (-2147483648 : Int) ≤ i.toInt + 3; omega) (by show i.toInt + 3 ≤ (2147483647 : Int); omega)) (fun z16 tz16 => ?_)
  refine va_sld hx hb hX hbl hbA hS (i := z16) (vp_in_iff.mpr ⟨by omega, by omega⟩) dL_law_335 ?_
  refine t_i (fun q => ∀ k : Int, (z16 : Int32).toInt = k → q.toInt = gI xs k) (fun _ hk => gI_of hk) (fun z17 sx_335 => ?_)
  refine lv_aload_n hx hb dL_law_336 rfl (lv_at hl 3 rfl) ?_
  refine lv_iload_n hx hb dL_law_337 rfl (lv_at hl 0 rfl) ?_
  refine lv_iconst (v := 4) hx hb dL_law_338 (by decide) ?_
  refine lv_iadd hx hb dL_law_339 ?_
  refine t_i (fun q => q.toInt = i.toInt + 4) (add_i (by show (-2147483648 : Int) ≤ i.toInt + 4; omega) (by show i.toInt + 4 ≤ (2147483647 : Int); omega)) (fun z18 tz18 => ?_)
  refine va_sld hx hb hX hbl hbA hS (i := z18) (vp_in_iff.mpr ⟨by omega, by omega⟩) dL_law_340 ?_
  refine t_i (fun q => ∀ k : Int, (z18 : Int32).toInt = k → q.toInt = gI xs k) (fun _ hk => gI_of hk) (fun z19 sx_340 => ?_)
  refine lv_aload_n hx hb dL_law_341 rfl (lv_at hl 3 rfl) ?_
  refine lv_iload_n hx hb dL_law_342 rfl (lv_at hl 0 rfl) ?_
  refine lv_iconst (v := 5) hx hb dL_law_343 (by decide) ?_
  refine lv_iadd hx hb dL_law_344 ?_
  refine t_i (fun q => q.toInt = i.toInt + 5) (add_i (by show (-2147483648 : Int) ≤ i.toInt + 5; omega) (by show i.toInt + 5 ≤ (2147483647 : Int); omega)) (fun z20 tz20 => ?_)
  refine va_sld hx hb hX hbl hbA hS (i := z20) (vp_in_iff.mpr ⟨by omega, by omega⟩) dL_law_345 ?_
  refine t_i (fun q => ∀ k : Int, (z20 : Int32).toInt = k → q.toInt = gI xs k) (fun _ hk => gI_of hk) (fun z21 sx_345 => ?_)
  refine k_L hC hN hZ hS hA hK hP hD (mw_weighed l G cI cJ cB cZ hMJ z13 z15 z17 z19 z21) mi_X10_weighed in_X10_weighed se_X10_weighed wm_L_35 10 rfl rfl (hMJ.rc) hl.1 rfl rfl (Nat.le_of_ble_eq_true rfl) ⟨(Nat.le_of_ble_eq_true rfl), (Nat.le_of_ble_eq_true rfl)⟩ dL_law_346 ⟨rfl, rfl⟩ (gr_w0 hXI11.g11) (fun r22 u22 H locs hp hP hD hS => ?_)
  have hMJ22 : MJ cI cJ cB cZ am tm u22 := hp
  have hP : va_P G cl (u11 ++ u22) H := hP
  have hD : va_D A (u11 ++ u22) := hD
  refine lv_pop hx hb dL_law_349 rfl ?_
  refine lv_goto (tgt := 1428) hx hb dL_law_350 (by decide) ?_
  obtain ⟨z23, ez23⟩ : ∃ q : Int32, q = i + Int32.ofInt 6 := ⟨_, rfl⟩
  have tz23 : z23.toInt = i.toInt + 6 := by rw [ez23]; exact add_i (y := 6) (by have p_ := i_lo i; show _ ≤ _ + (6 : Int); omega) (by have q_ := i_hi i; show _ + (6 : Int) ≤ _; omega)
  refine lv_iinc (v := z23) (lv' := [(3, .int z23), (2, .ref am), (1, .ref ax), (0, .ref b)]) hx hb dL_law_1428 hl (k := 0) rfl ez23.symm (by decide) rfl (fun ls hl => ?_)
  refine lv_goto (tgt := 18) hx hb dL_law_1431 (by decide) ?_
  exact ih g tm u11 u22 z23 H locs ls hXI11 hMJ22 (by omega) (by omega) (by omega) hP hD hS (lv_sub hl [0, 1, 2, 3] rfl)
set_option maxRecDepth 100000 in
theorem wm_L_36 : Cond.methodLink RL 36 yX9_untell ∈ gw := gm (List.mem_of_getElem? (i := 761) (by decide +kernel)) rfl
set_option maxRecDepth 100000 in
theorem mi_X9_untell : MI yX9_untell cX9_untell 2 (some .boolean) 1 := ⟨gm (List.mem_of_getElem? (i := 764) rfl) rfl, gm (List.mem_of_getElem? (i := 112) (by decide +kernel)) rfl, by decide, by decide, by decide +kernel⟩
set_option maxRecDepth 100000 in
theorem in_X9_untell : Cond.instanceMethod yX9_untell ∈ gw := gm (List.mem_of_getElem? (i := 762) (by decide +kernel)) rfl
set_option maxRecDepth 100000 in
theorem se_X9_untell : Cond.selects yX9_untell.cls yX9_untell yX9_untell ∈ gw := gm (List.mem_of_getElem? (i := 763) (by decide +kernel)) rfl
set_option maxRecDepth 100000 in
theorem wm_L_40 : Cond.methodLink RL 40 yX10_untell ∈ gw := gm (List.mem_of_getElem? (i := 1598) (by decide +kernel)) rfl
set_option maxRecDepth 100000 in
theorem mi_X10_untell : MI yX10_untell cX10_untell 2 (some .boolean) 1 := ⟨gm (List.mem_of_getElem? (i := 1601) rfl) rfl, gm (List.mem_of_getElem? (i := 124) (by decide +kernel)) rfl, by decide, by decide, by decide +kernel⟩
set_option maxRecDepth 100000 in
theorem in_X10_untell : Cond.instanceMethod yX10_untell ∈ gw := gm (List.mem_of_getElem? (i := 1599) (by decide +kernel)) rfl
set_option maxRecDepth 100000 in
theorem se_X10_untell : Cond.selects yX10_untell.cls yX10_untell yX10_untell ∈ gw := gm (List.mem_of_getElem? (i := 1600) (by decide +kernel)) rfl
set_option maxHeartbeats 8000000 in
set_option maxRecDepth 100000 in
theorem law_untell {p : Program} {l : Launch} {e : Env} {s : State} {m : MethodId} {below : List Frame} {meth : Method} {c : Code} {b L ax am : Nat} {xs : Nat → Int32} {A : Nat → Prop} {G : va_G} {cI cJ cB cZ : ClassId} (hC : CallFix p m c code 4 s #[Value.ref b] gw R_law) (hr : meth.sig.returnType = ret) (hlk : meth.locks = false) (hN : NW s) (hZ : SW A s s.heap) (hK : va_K G cl (TY cI cJ cB cZ) s) (hX : va_X b L xs s s.heap) (hbl : b < s.heap.size) (hA : ∀ q, s.heap.size ≤ q → A q) (hbA : ¬ A b) (hfo : ∀ q, A q → s.heap.size ≤ q) {n : Nat} (ih : LI p l e s m below meth c b L A G cI cJ cB cZ ax am n) (g : Nat) (tm : Int) (wx wm : va_W) (i : Int32) (H : Heap) (locs : List Loc) (ls : Array Slot) (hXI : XI cI cJ cB cZ ax tm g wx) (hMJ : MJ cI cJ cB cZ am tm wm) (hi0 : 0 ≤ i.toInt) (hiL : i.toInt ≤ (L : Int) + 6) (hL : L ≤ 3072) (hm : (L : Int) + 6 - i.toInt < (n : Int) + 1) (hi6 : i.toInt + 6 ≤ (L : Int)) (hP : va_P G cl (wx ++ wm) H) (hD : va_D A (wx ++ wm)) (hS : va_S A s.heap H locs) (hl : lv_has ls 4 [(3, .int i), (2, .ref am), (1, .ref ax), (0, .ref b)]) : W p l e room_1 s m #[Value.ref b] below meth c H locs (1000 + g) (1000000 + fs g) (lw_Z below #[Value.ref b] s) (F0 m 353 ls []) := by
  obtain ⟨hx, hb, hml, hown, hts⟩ := id hC
  refine lv_aload_n hx hb dL_law_353 rfl (lv_at hl 2 rfl) ?_
  refine lv_aload_n hx hb dL_law_354 rfl (lv_at hl 3 rfl) ?_
  refine lv_iload_n hx hb dL_law_355 rfl (lv_at hl 0 rfl) ?_
  refine lv_iconst (v := 1) hx hb dL_law_356 (by decide) ?_
  refine lv_iadd hx hb dL_law_357 ?_
  refine t_i (fun q => q.toInt = i.toInt + 1) (add_i (by show (-2147483648 : Int) ≤ i.toInt + 1; omega) (by show i.toInt + 1 ≤ (2147483647 : Int); omega)) (fun z1 tz1 => ?_)
  refine va_sld hx hb hX hbl hbA hS (i := z1) (vp_in_iff.mpr ⟨by omega, by omega⟩) dL_law_358 ?_
  refine t_i (fun q => ∀ k : Int, (z1 : Int32).toInt = k → q.toInt = gI xs k) (fun _ hk => gI_of hk) (fun z2 sx_358 => ?_)
  refine k_L hC hN hZ hS hA hK hP hD (xw_untell l G cI cJ cB cZ hXI z2) mi_X9_untell in_X9_untell se_X9_untell wm_L_36 9 rfl rfl (hXI.rc) hl.1 rfl rfl (Nat.le_of_ble_eq_true rfl) ⟨(Nat.le_of_ble_eq_true rfl), (Nat.le_of_ble_eq_true rfl)⟩ dL_law_359 ⟨rfl, rfl⟩ (gr_w0 hXI.g11) (fun r3 u3 H locs hp hP hD hS => ?_)
  have hXI3 : XI cI cJ cB cZ ax tm g u3 := hp
  have hP : va_P G cl (wm ++ u3) H := hP
  have hD : va_D A (wm ++ u3) := hD
  refine lv_pop hx hb dL_law_362 rfl ?_
  refine lv_aload_n hx hb dL_law_363 rfl (lv_at hl 1 rfl) ?_
  refine lv_aload_n hx hb dL_law_364 rfl (lv_at hl 3 rfl) ?_
  refine lv_iload_n hx hb dL_law_365 rfl (lv_at hl 0 rfl) ?_
  refine lv_iconst (v := 1) hx hb dL_law_366 (by decide) ?_
  refine lv_iadd hx hb dL_law_367 ?_
  refine t_i (fun q => q.toInt = i.toInt + 1) (add_i (by show (-2147483648 : Int) ≤ i.toInt + 1; omega) (by show i.toInt + 1 ≤ (2147483647 : Int); omega)) (fun z4 tz4 => ?_)
  refine va_sld hx hb hX hbl hbA hS (i := z4) (vp_in_iff.mpr ⟨by omega, by omega⟩) dL_law_368 ?_
  refine t_i (fun q => ∀ k : Int, (z4 : Int32).toInt = k → q.toInt = gI xs k) (fun _ hk => gI_of hk) (fun z5 sx_368 => ?_)
  refine k_L hC hN hZ hS hA hK hP hD (mw_untell l G cI cJ cB cZ hMJ z5) mi_X10_untell in_X10_untell se_X10_untell wm_L_40 10 rfl rfl (hMJ.rc) hl.1 rfl rfl (Nat.le_of_ble_eq_true rfl) ⟨(Nat.le_of_ble_eq_true rfl), (Nat.le_of_ble_eq_true rfl)⟩ dL_law_369 ⟨rfl, rfl⟩ (gr_w0 hXI3.g11) (fun r6 u6 H locs hp hP hD hS => ?_)
  have hMJ6 : MJ cI cJ cB cZ am tm u6 := hp
  have hP : va_P G cl (u3 ++ u6) H := hP
  have hD : va_D A (u3 ++ u6) := hD
  refine lv_pop hx hb dL_law_372 rfl ?_
  refine lv_goto (tgt := 1428) hx hb dL_law_373 (by decide) ?_
  obtain ⟨z7, ez7⟩ : ∃ q : Int32, q = i + Int32.ofInt 6 := ⟨_, rfl⟩
  have tz7 : z7.toInt = i.toInt + 6 := by rw [ez7]; exact add_i (y := 6) (by have p_ := i_lo i; show _ ≤ _ + (6 : Int); omega) (by have q_ := i_hi i; show _ + (6 : Int) ≤ _; omega)
  refine lv_iinc (v := z7) (lv' := [(3, .int z7), (2, .ref am), (1, .ref ax), (0, .ref b)]) hx hb dL_law_1428 hl (k := 0) rfl ez7.symm (by decide) rfl (fun ls hl => ?_)
  refine lv_goto (tgt := 18) hx hb dL_law_1431 (by decide) ?_
  exact ih g tm u3 u6 z7 H locs ls hXI3 hMJ6 (by omega) (by omega) (by omega) hP hD hS (lv_sub hl [0, 1, 2, 3] rfl)
set_option maxRecDepth 100000 in
theorem wm_L_45 : Cond.methodLink RL 45 yX9_doubt ∈ gw := gm (List.mem_of_getElem? (i := 774) (by decide +kernel)) rfl
set_option maxRecDepth 100000 in
theorem mi_X9_doubt : MI yX9_doubt cX9_doubt 3 (some .boolean) 2 := ⟨gm (List.mem_of_getElem? (i := 777) rfl) rfl, gm (List.mem_of_getElem? (i := 112) (by decide +kernel)) rfl, by decide, by decide, by decide +kernel⟩
set_option maxRecDepth 100000 in
theorem in_X9_doubt : Cond.instanceMethod yX9_doubt ∈ gw := gm (List.mem_of_getElem? (i := 775) (by decide +kernel)) rfl
set_option maxRecDepth 100000 in
theorem se_X9_doubt : Cond.selects yX9_doubt.cls yX9_doubt yX9_doubt ∈ gw := gm (List.mem_of_getElem? (i := 776) (by decide +kernel)) rfl
set_option maxRecDepth 100000 in
theorem wm_L_49 : Cond.methodLink RL 49 yX10_doubt ∈ gw := gm (List.mem_of_getElem? (i := 1607) (by decide +kernel)) rfl
set_option maxRecDepth 100000 in
theorem mi_X10_doubt : MI yX10_doubt cX10_doubt 3 (some .boolean) 2 := ⟨gm (List.mem_of_getElem? (i := 1610) rfl) rfl, gm (List.mem_of_getElem? (i := 124) (by decide +kernel)) rfl, by decide, by decide, by decide +kernel⟩
set_option maxRecDepth 100000 in
theorem in_X10_doubt : Cond.instanceMethod yX10_doubt ∈ gw := gm (List.mem_of_getElem? (i := 1608) (by decide +kernel)) rfl
set_option maxRecDepth 100000 in
theorem se_X10_doubt : Cond.selects yX10_doubt.cls yX10_doubt yX10_doubt ∈ gw := gm (List.mem_of_getElem? (i := 1609) (by decide +kernel)) rfl
set_option maxHeartbeats 8000000 in
set_option maxRecDepth 100000 in
theorem law_doubt {p : Program} {l : Launch} {e : Env} {s : State} {m : MethodId} {below : List Frame} {meth : Method} {c : Code} {b L ax am : Nat} {xs : Nat → Int32} {A : Nat → Prop} {G : va_G} {cI cJ cB cZ : ClassId} (hC : CallFix p m c code 4 s #[Value.ref b] gw R_law) (hr : meth.sig.returnType = ret) (hlk : meth.locks = false) (hN : NW s) (hZ : SW A s s.heap) (hK : va_K G cl (TY cI cJ cB cZ) s) (hX : va_X b L xs s s.heap) (hbl : b < s.heap.size) (hA : ∀ q, s.heap.size ≤ q → A q) (hbA : ¬ A b) (hfo : ∀ q, A q → s.heap.size ≤ q) {n : Nat} (ih : LI p l e s m below meth c b L A G cI cJ cB cZ ax am n) (g : Nat) (tm : Int) (wx wm : va_W) (i : Int32) (H : Heap) (locs : List Loc) (ls : Array Slot) (hXI : XI cI cJ cB cZ ax tm g wx) (hMJ : MJ cI cJ cB cZ am tm wm) (hi0 : 0 ≤ i.toInt) (hiL : i.toInt ≤ (L : Int) + 6) (hL : L ≤ 3072) (hm : (L : Int) + 6 - i.toInt < (n : Int) + 1) (hi6 : i.toInt + 6 ≤ (L : Int)) (hP : va_P G cl (wx ++ wm) H) (hD : va_D A (wx ++ wm)) (hS : va_S A s.heap H locs) (hl : lv_has ls 4 [(3, .int i), (2, .ref am), (1, .ref ax), (0, .ref b)]) : W p l e room_1 s m #[Value.ref b] below meth c H locs (1000 + g) (1000000 + fs g) (lw_Z below #[Value.ref b] s) (F0 m 399 ls []) := by
  obtain ⟨hx, hb, hml, hown, hts⟩ := id hC
  refine lv_aload_n hx hb dL_law_399 rfl (lv_at hl 2 rfl) ?_
  refine lv_aload_n hx hb dL_law_400 rfl (lv_at hl 3 rfl) ?_
  refine lv_iload_n hx hb dL_law_401 rfl (lv_at hl 0 rfl) ?_
  refine lv_iconst (v := 1) hx hb dL_law_402 (by decide) ?_
  refine lv_iadd hx hb dL_law_403 ?_
  refine t_i (fun q => q.toInt = i.toInt + 1) (add_i (by show (-2147483648 : Int) ≤ i.toInt + 1; omega) (by show i.toInt + 1 ≤ (2147483647 : Int); omega)) (fun z1 tz1 => ?_)
  refine va_sld hx hb hX hbl hbA hS (i := z1) (vp_in_iff.mpr ⟨by omega, by omega⟩) dL_law_404 ?_
  refine t_i (fun q => ∀ k : Int, (z1 : Int32).toInt = k → q.toInt = gI xs k) (fun _ hk => gI_of hk) (fun z2 sx_404 => ?_)
  refine lv_aload_n hx hb dL_law_405 rfl (lv_at hl 3 rfl) ?_
  refine lv_iload_n hx hb dL_law_406 rfl (lv_at hl 0 rfl) ?_
  refine lv_iconst (v := 2) hx hb dL_law_407 (by decide) ?_
  refine lv_iadd hx hb dL_law_408 ?_
  refine t_i (fun q => q.toInt = i.toInt + 2) (add_i (by show (-2147483648 : Int) ≤ i.toInt + 2; omega) (by show i.toInt + 2 ≤ (2147483647 : Int); omega)) (fun z3 tz3 => ?_)
  refine va_sld hx hb hX hbl hbA hS (i := z3) (vp_in_iff.mpr ⟨by omega, by omega⟩) dL_law_409 ?_
  refine t_i (fun q => ∀ k : Int, (z3 : Int32).toInt = k → q.toInt = gI xs k) (fun _ hk => gI_of hk) (fun z4 sx_409 => ?_)
  have JB_418 : ∀ zb5 : Int32, 0 ≤ zb5.toInt ∧ zb5.toInt ≤ 1 → W p l e room_1 s m #[Value.ref b] below meth c H locs (1000 + g) (1000000 + fs g) (lw_Z below #[Value.ref b] s) (F0 m 418 ls [.int zb5, .int z2, .ref ax]) := by
    intro zb5 hzb5
    refine k_L hC hN hZ hS hA hK hP hD (xw_doubt l G cI cJ cB cZ hXI z2 zb5 hzb5) mi_X9_doubt in_X9_doubt se_X9_doubt wm_L_45 9 rfl rfl (hXI.rc) hl.1 rfl rfl (Nat.le_of_ble_eq_true rfl) ⟨(Nat.le_of_ble_eq_true rfl), (Nat.le_of_ble_eq_true rfl)⟩ dL_law_418 ⟨rfl, rfl⟩ (gr_w0 hXI.g11) (fun r6 u6 H locs hp hP hD hS => ?_)
    have hXI6 : XI cI cJ cB cZ ax tm g u6 := hp
    have hP : va_P G cl (wm ++ u6) H := hP
    have hD : va_D A (wm ++ u6) := hD
    refine lv_pop hx hb dL_law_421 rfl ?_
    refine lv_aload_n hx hb dL_law_422 rfl (lv_at hl 1 rfl) ?_
    refine lv_aload_n hx hb dL_law_423 rfl (lv_at hl 3 rfl) ?_
    refine lv_iload_n hx hb dL_law_424 rfl (lv_at hl 0 rfl) ?_
    refine lv_iconst (v := 1) hx hb dL_law_425 (by decide) ?_
    refine lv_iadd hx hb dL_law_426 ?_
    refine t_i (fun q => q.toInt = i.toInt + 1) (add_i (by show (-2147483648 : Int) ≤ i.toInt + 1; omega) (by show i.toInt + 1 ≤ (2147483647 : Int); omega)) (fun z7 tz7 => ?_)
    refine va_sld hx hb hX hbl hbA hS (i := z7) (vp_in_iff.mpr ⟨by omega, by omega⟩) dL_law_427 ?_
    refine t_i (fun q => ∀ k : Int, (z7 : Int32).toInt = k → q.toInt = gI xs k) (fun _ hk => gI_of hk) (fun z8 sx_427 => ?_)
    refine lv_aload_n hx hb dL_law_428 rfl (lv_at hl 3 rfl) ?_
    refine lv_iload_n hx hb dL_law_429 rfl (lv_at hl 0 rfl) ?_
    refine lv_iconst (v := 2) hx hb dL_law_430 (by decide) ?_
    refine lv_iadd hx hb dL_law_431 ?_
    refine t_i (fun q => q.toInt = i.toInt + 2) (add_i (by show (-2147483648 : Int) ≤ i.toInt + 2; omega) (by show i.toInt + 2 ≤ (2147483647 : Int); omega)) (fun z9 tz9 => ?_)
    refine va_sld hx hb hX hbl hbA hS (i := z9) (vp_in_iff.mpr ⟨by omega, by omega⟩) dL_law_432 ?_
    refine t_i (fun q => ∀ k : Int, (z9 : Int32).toInt = k → q.toInt = gI xs k) (fun _ hk => gI_of hk) (fun z10 sx_432 => ?_)
    have JB_441 : ∀ zb11 : Int32, 0 ≤ zb11.toInt ∧ zb11.toInt ≤ 1 → W p l e room_1 s m #[Value.ref b] below meth c H locs (1000 + g) (1000000 + fs g) (lw_Z below #[Value.ref b] s) (F0 m 441 ls [.int zb11, .int z8, .ref am]) := by
      intro zb11 hzb11
      refine k_L hC hN hZ hS hA hK hP hD (mw_doubt l G cI cJ cB cZ hMJ z8 zb11 hzb11) mi_X10_doubt in_X10_doubt se_X10_doubt wm_L_49 10 rfl rfl (hMJ.rc) hl.1 rfl rfl (Nat.le_of_ble_eq_true rfl) ⟨(Nat.le_of_ble_eq_true rfl), (Nat.le_of_ble_eq_true rfl)⟩ dL_law_441 ⟨rfl, rfl⟩ (gr_w0 hXI6.g11) (fun r12 u12 H locs hp hP hD hS => ?_)
      have hMJ12 : MJ cI cJ cB cZ am tm u12 := hp
      have hP : va_P G cl (u6 ++ u12) H := hP
      have hD : va_D A (u6 ++ u12) := hD
      refine lv_pop hx hb dL_law_444 rfl ?_
      refine lv_goto (tgt := 1428) hx hb dL_law_445 (by decide) ?_
      obtain ⟨z13, ez13⟩ : ∃ q : Int32, q = i + Int32.ofInt 6 := ⟨_, rfl⟩
      have tz13 : z13.toInt = i.toInt + 6 := by rw [ez13]; exact add_i (y := 6) (by have p_ := i_lo i; show _ ≤ _ + (6 : Int); omega) (by have q_ := i_hi i; show _ + (6 : Int) ≤ _; omega)
      refine lv_iinc (v := z13) (lv' := [(3, .int z13), (2, .ref am), (1, .ref ax), (0, .ref b)]) hx hb dL_law_1428 hl (k := 0) rfl ez13.symm (by decide) rfl (fun ls hl => ?_)
      refine lv_goto (tgt := 18) hx hb dL_law_1431 (by decide) ?_
      exact ih g tm u6 u12 z13 H locs ls hXI6 hMJ12 (by omega) (by omega) (by omega) hP hD hS (lv_sub hl [0, 1, 2, 3] rfl)
    refine lv_if_eq (tgt := 440) hx hb dL_law_433 (by decide) (fun _ => ?_) (fun _ => ?_)
    · refine lv_iconst (v := 0) hx hb dL_law_440 (by decide) ?_
      exact JB_441 0 (by decide)
    · refine lv_iconst (v := 1) hx hb dL_law_436 (by decide) ?_
      refine lv_goto (tgt := 441) hx hb dL_law_437 (by decide) ?_
      exact JB_441 1 (by decide)
  refine lv_if_eq (tgt := 417) hx hb dL_law_410 (by decide) (fun _ => ?_) (fun _ => ?_)
  · refine lv_iconst (v := 0) hx hb dL_law_417 (by decide) ?_
    exact JB_418 0 (by decide)
  · refine lv_iconst (v := 1) hx hb dL_law_413 (by decide) ?_
    refine lv_goto (tgt := 418) hx hb dL_law_414 (by decide) ?_
    exact JB_418 1 (by decide)
set_option maxRecDepth 100000 in
theorem wm_L_54 : Cond.methodLink RL 54 yX9_fit ∈ gw := gm (List.mem_of_getElem? (i := 926) (by decide +kernel)) rfl
set_option maxRecDepth 100000 in
theorem mi_X9_fit : MI yX9_fit cX9_fit 4 (some .int) 3 := ⟨gm (List.mem_of_getElem? (i := 929) rfl) rfl, gm (List.mem_of_getElem? (i := 112) (by decide +kernel)) rfl, by decide, by decide, by decide +kernel⟩
set_option maxRecDepth 100000 in
theorem in_X9_fit : Cond.instanceMethod yX9_fit ∈ gw := gm (List.mem_of_getElem? (i := 927) (by decide +kernel)) rfl
set_option maxRecDepth 100000 in
theorem se_X9_fit : Cond.selects yX9_fit.cls yX9_fit yX9_fit ∈ gw := gm (List.mem_of_getElem? (i := 928) (by decide +kernel)) rfl
set_option maxRecDepth 100000 in
theorem wm_L_58 : Cond.methodLink RL 58 yX10_fit ∈ gw := gm (List.mem_of_getElem? (i := 1671) (by decide +kernel)) rfl
set_option maxRecDepth 100000 in
theorem mi_X10_fit : MI yX10_fit cX10_fit 4 (some .int) 3 := ⟨gm (List.mem_of_getElem? (i := 1674) rfl) rfl, gm (List.mem_of_getElem? (i := 124) (by decide +kernel)) rfl, by decide, by decide, by decide +kernel⟩
set_option maxRecDepth 100000 in
theorem in_X10_fit : Cond.instanceMethod yX10_fit ∈ gw := gm (List.mem_of_getElem? (i := 1672) (by decide +kernel)) rfl
set_option maxRecDepth 100000 in
theorem se_X10_fit : Cond.selects yX10_fit.cls yX10_fit yX10_fit ∈ gw := gm (List.mem_of_getElem? (i := 1673) (by decide +kernel)) rfl
set_option maxHeartbeats 8000000 in
set_option maxRecDepth 100000 in
theorem law_fit {p : Program} {l : Launch} {e : Env} {s : State} {m : MethodId} {below : List Frame} {meth : Method} {c : Code} {b L ax am : Nat} {xs : Nat → Int32} {A : Nat → Prop} {G : va_G} {cI cJ cB cZ : ClassId} (hC : CallFix p m c code 4 s #[Value.ref b] gw R_law) (hr : meth.sig.returnType = ret) (hlk : meth.locks = false) (hN : NW s) (hZ : SW A s s.heap) (hK : va_K G cl (TY cI cJ cB cZ) s) (hX : va_X b L xs s s.heap) (hbl : b < s.heap.size) (hA : ∀ q, s.heap.size ≤ q → A q) (hbA : ¬ A b) (hfo : ∀ q, A q → s.heap.size ≤ q) {n : Nat} (ih : LI p l e s m below meth c b L A G cI cJ cB cZ ax am n) (g : Nat) (tm : Int) (wx wm : va_W) (i : Int32) (H : Heap) (locs : List Loc) (ls : Array Slot) (hXI : XI cI cJ cB cZ ax tm g wx) (hMJ : MJ cI cJ cB cZ am tm wm) (hi0 : 0 ≤ i.toInt) (hiL : i.toInt ≤ (L : Int) + 6) (hL : L ≤ 3072) (hm : (L : Int) + 6 - i.toInt < (n : Int) + 1) (hi6 : i.toInt + 6 ≤ (L : Int)) (hP : va_P G cl (wx ++ wm) H) (hD : va_D A (wx ++ wm)) (hS : va_S A s.heap H locs) (hl : lv_has ls 4 [(3, .int i), (2, .ref am), (1, .ref ax), (0, .ref b)]) : W p l e room_1 s m #[Value.ref b] below meth c H locs (1000 + g) (1000000 + fs g) (lw_Z below #[Value.ref b] s) (F0 m 471 ls []) := by
  obtain ⟨hx, hb, hml, hown, hts⟩ := id hC
  refine lv_aload_n hx hb dL_law_471 rfl (lv_at hl 2 rfl) ?_
  refine lv_aload_n hx hb dL_law_472 rfl (lv_at hl 3 rfl) ?_
  refine lv_iload_n hx hb dL_law_473 rfl (lv_at hl 0 rfl) ?_
  refine lv_iconst (v := 1) hx hb dL_law_474 (by decide) ?_
  refine lv_iadd hx hb dL_law_475 ?_
  refine t_i (fun q => q.toInt = i.toInt + 1) (add_i (by show (-2147483648 : Int) ≤ i.toInt + 1; omega) (by show i.toInt + 1 ≤ (2147483647 : Int); omega)) (fun z1 tz1 => ?_)
  refine va_sld hx hb hX hbl hbA hS (i := z1) (vp_in_iff.mpr ⟨by omega, by omega⟩) dL_law_476 ?_
  refine t_i (fun q => ∀ k : Int, (z1 : Int32).toInt = k → q.toInt = gI xs k) (fun _ hk => gI_of hk) (fun z2 sx_476 => ?_)
  refine lv_aload_n hx hb dL_law_477 rfl (lv_at hl 3 rfl) ?_
  refine lv_iload_n hx hb dL_law_478 rfl (lv_at hl 0 rfl) ?_
  refine lv_iconst (v := 2) hx hb dL_law_479 (by decide) ?_
  refine lv_iadd hx hb dL_law_480 ?_
  refine t_i (fun q => q.toInt = i.toInt + 2) (add_i (by show (-2147483648 : Int) ≤ i.toInt + 2; omega) (by show i.toInt + 2 ≤ (2147483647 : Int); omega)) (fun z3 tz3 => ?_)
  refine va_sld hx hb hX hbl hbA hS (i := z3) (vp_in_iff.mpr ⟨by omega, by omega⟩) dL_law_481 ?_
  refine t_i (fun q => ∀ k : Int, (z3 : Int32).toInt = k → q.toInt = gI xs k) (fun _ hk => gI_of hk) (fun z4 sx_481 => ?_)
  refine lv_aload_n hx hb dL_law_482 rfl (lv_at hl 3 rfl) ?_
  refine lv_iload_n hx hb dL_law_483 rfl (lv_at hl 0 rfl) ?_
  refine lv_iconst (v := 3) hx hb dL_law_484 (by decide) ?_
  refine lv_iadd hx hb dL_law_485 ?_
  refine t_i (fun q => q.toInt = i.toInt + 3) (add_i (by show (-2147483648 : Int) ≤ i.toInt + 3; omega) (by show i.toInt + 3 ≤ (2147483647 : Int); omega)) (fun z5 tz5 => ?_)
  refine va_sld hx hb hX hbl hbA hS (i := z5) (vp_in_iff.mpr ⟨by omega, by omega⟩) dL_law_486 ?_
  refine t_i (fun q => ∀ k : Int, (z5 : Int32).toInt = k → q.toInt = gI xs k) (fun _ hk => gI_of hk) (fun z6 sx_486 => ?_)
  refine W.know (fun hgr => ?_)
  refine k_LG hC hN hZ hS hA hK hP hD (xw_fit l G cI cJ cB cZ hXI z2 z4 z6) mi_X9_fit in_X9_fit se_X9_fit wm_L_54 9 rfl rfl (hXI.rc) hl.1 rfl rfl (Nat.le_of_ble_eq_true rfl) ⟨(Nat.le_of_ble_eq_true rfl), (Nat.le_of_ble_eq_true rfl)⟩ dL_law_487 (gr_wG hXI.g11) (fun r7 u7 H locs hp hP hD hS hgn => ?_)
  obtain ⟨g7, w7⟩ := u7
  obtain ⟨hXI7, hgg⟩ := hp
  have hXI7 : XI cI cJ cB cZ ax tm g7 w7 := hXI7
  have hgg : g ≤ g7 := hgg
  refine W.tight (k := 1000 + g7) (n := 1000000 + fs g7) (GR.tr4 hgr hgn hgg) ?_
  have hP : va_P G cl (wm ++ w7) H := hP
  have hD : va_D A (wm ++ w7) := hD
  refine lv_pop hx hb dL_law_490 rfl ?_
  refine lv_aload_n hx hb dL_law_491 rfl (lv_at hl 1 rfl) ?_
  refine lv_aload_n hx hb dL_law_492 rfl (lv_at hl 3 rfl) ?_
  refine lv_iload_n hx hb dL_law_493 rfl (lv_at hl 0 rfl) ?_
  refine lv_iconst (v := 1) hx hb dL_law_494 (by decide) ?_
  refine lv_iadd hx hb dL_law_495 ?_
  refine t_i (fun q => q.toInt = i.toInt + 1) (add_i (by show (-2147483648 : Int) ≤ i.toInt + 1; omega) (by show i.toInt + 1 ≤ (2147483647 : Int); omega)) (fun z8 tz8 => ?_)
  refine va_sld hx hb hX hbl hbA hS (i := z8) (vp_in_iff.mpr ⟨by omega, by omega⟩) dL_law_496 ?_
  refine t_i (fun q => ∀ k : Int, (z8 : Int32).toInt = k → q.toInt = gI xs k) (fun _ hk => gI_of hk) (fun z9 sx_496 => ?_)
  refine lv_aload_n hx hb dL_law_497 rfl (lv_at hl 3 rfl) ?_
  refine lv_iload_n hx hb dL_law_498 rfl (lv_at hl 0 rfl) ?_
  refine lv_iconst (v := 2) hx hb dL_law_499 (by decide) ?_
  refine lv_iadd hx hb dL_law_500 ?_
  refine t_i (fun q => q.toInt = i.toInt + 2) (add_i (by show (-2147483648 : Int) ≤ i.toInt + 2; omega) (by show i.toInt + 2 ≤ (2147483647 : Int); omega)) (fun z10 tz10 => ?_)
  refine va_sld hx hb hX hbl hbA hS (i := z10) (vp_in_iff.mpr ⟨by omega, by omega⟩) dL_law_501 ?_
  refine t_i (fun q => ∀ k : Int, (z10 : Int32).toInt = k → q.toInt = gI xs k) (fun _ hk => gI_of hk) (fun z11 sx_501 => ?_)
  refine lv_aload_n hx hb dL_law_502 rfl (lv_at hl 3 rfl) ?_
  refine lv_iload_n hx hb dL_law_503 rfl (lv_at hl 0 rfl) ?_
  refine lv_iconst (v := 3) hx hb dL_law_504 (by decide) ?_
  refine lv_iadd hx hb dL_law_505 ?_
  refine t_i (fun q => q.toInt = i.toInt + 3) (add_i (by show (-2147483648 : Int) ≤ i.toInt + 3; omega) (by show i.toInt + 3 ≤ (2147483647 : Int); omega)) (fun z12 tz12 => ?_)
  refine va_sld hx hb hX hbl hbA hS (i := z12) (vp_in_iff.mpr ⟨by omega, by omega⟩) dL_law_506 ?_
  refine t_i (fun q => ∀ k : Int, (z12 : Int32).toInt = k → q.toInt = gI xs k) (fun _ hk => gI_of hk) (fun z13 sx_506 => ?_)
  refine k_L hC hN hZ hS hA hK hP hD (mw_fit l G cI cJ cB cZ hMJ z9 z11 z13) mi_X10_fit in_X10_fit se_X10_fit wm_L_58 10 rfl rfl (hMJ.rc) hl.1 rfl rfl (Nat.le_of_ble_eq_true rfl) ⟨(Nat.le_of_ble_eq_true rfl), (Nat.le_of_ble_eq_true rfl)⟩ dL_law_507 ⟨rfl, rfl⟩ (gr_w0 hXI7.g11) (fun r14 u14 H locs hp hP hD hS => ?_)
  have hMJ14 : MJ cI cJ cB cZ am tm u14 := hp
  have hP : va_P G cl (w7 ++ u14) H := hP
  have hD : va_D A (w7 ++ u14) := hD
  refine lv_pop hx hb dL_law_510 rfl ?_
  refine lv_goto (tgt := 1428) hx hb dL_law_511 (by decide) ?_
  obtain ⟨z15, ez15⟩ : ∃ q : Int32, q = i + Int32.ofInt 6 := ⟨_, rfl⟩
  have tz15 : z15.toInt = i.toInt + 6 := by rw [ez15]; exact add_i (y := 6) (by have p_ := i_lo i; show _ ≤ _ + (6 : Int); omega) (by have q_ := i_hi i; show _ + (6 : Int) ≤ _; omega)
  refine lv_iinc (v := z15) (lv' := [(3, .int z15), (2, .ref am), (1, .ref ax), (0, .ref b)]) hx hb dL_law_1428 hl (k := 0) rfl ez15.symm (by decide) rfl (fun ls hl => ?_)
  refine lv_goto (tgt := 18) hx hb dL_law_1431 (by decide) ?_
  exact ih g7 tm w7 u14 z15 H locs ls hXI7 hMJ14 (by omega) (by omega) (by omega) hP hD hS (lv_sub hl [0, 1, 2, 3] rfl)
set_option maxRecDepth 100000 in
theorem wm_L_59 : Cond.methodLink RL 59 yX9_span ∈ gw := gm (List.mem_of_getElem? (i := 959) (by decide +kernel)) rfl
set_option maxRecDepth 100000 in
theorem mi_X9_span : MI yX9_span cX9_span 6 (some .int) 3 := ⟨gm (List.mem_of_getElem? (i := 962) rfl) rfl, gm (List.mem_of_getElem? (i := 112) (by decide +kernel)) rfl, by decide, by decide, by decide +kernel⟩
set_option maxRecDepth 100000 in
theorem in_X9_span : Cond.instanceMethod yX9_span ∈ gw := gm (List.mem_of_getElem? (i := 960) (by decide +kernel)) rfl
set_option maxRecDepth 100000 in
theorem se_X9_span : Cond.selects yX9_span.cls yX9_span yX9_span ∈ gw := gm (List.mem_of_getElem? (i := 961) (by decide +kernel)) rfl
set_option maxRecDepth 100000 in
theorem wm_L_63 : Cond.methodLink RL 63 yX10_span ∈ gw := gm (List.mem_of_getElem? (i := 1687) (by decide +kernel)) rfl
set_option maxHeartbeats 8000000 in
set_option maxRecDepth 100000 in
theorem law_span {p : Program} {l : Launch} {e : Env} {s : State} {m : MethodId} {below : List Frame} {meth : Method} {c : Code} {b L ax am : Nat} {xs : Nat → Int32} {A : Nat → Prop} {G : va_G} {cI cJ cB cZ : ClassId} (hC : CallFix p m c code 4 s #[Value.ref b] gw R_law) (hr : meth.sig.returnType = ret) (hlk : meth.locks = false) (hN : NW s) (hZ : SW A s s.heap) (hK : va_K G cl (TY cI cJ cB cZ) s) (hX : va_X b L xs s s.heap) (hbl : b < s.heap.size) (hA : ∀ q, s.heap.size ≤ q → A q) (hbA : ¬ A b) (hfo : ∀ q, A q → s.heap.size ≤ q) {n : Nat} (ih : LI p l e s m below meth c b L A G cI cJ cB cZ ax am n) (g : Nat) (tm : Int) (wx wm : va_W) (i : Int32) (H : Heap) (locs : List Loc) (ls : Array Slot) (hXI : XI cI cJ cB cZ ax tm g wx) (hMJ : MJ cI cJ cB cZ am tm wm) (hi0 : 0 ≤ i.toInt) (hiL : i.toInt ≤ (L : Int) + 6) (hL : L ≤ 3072) (hm : (L : Int) + 6 - i.toInt < (n : Int) + 1) (hi6 : i.toInt + 6 ≤ (L : Int)) (hP : va_P G cl (wx ++ wm) H) (hD : va_D A (wx ++ wm)) (hS : va_S A s.heap H locs) (hl : lv_has ls 4 [(3, .int i), (2, .ref am), (1, .ref ax), (0, .ref b)]) : W p l e room_1 s m #[Value.ref b] below meth c H locs (1000 + g) (1000000 + fs g) (lw_Z below #[Value.ref b] s) (F0 m 514 ls []) := by
  obtain ⟨hx, hb, hml, hown, hts⟩ := id hC
  refine lv_aload_n hx hb dL_law_514 rfl (lv_at hl 2 rfl) ?_
  refine lv_aload_n hx hb dL_law_515 rfl (lv_at hl 3 rfl) ?_
  refine lv_iload_n hx hb dL_law_516 rfl (lv_at hl 0 rfl) ?_
  refine lv_iconst (v := 1) hx hb dL_law_517 (by decide) ?_
  refine lv_iadd hx hb dL_law_518 ?_
  refine t_i (fun q => q.toInt = i.toInt + 1) (add_i (by show (-2147483648 : Int) ≤ i.toInt + 1; omega) (by show i.toInt + 1 ≤ (2147483647 : Int); omega)) (fun z1 tz1 => ?_)
  refine va_sld hx hb hX hbl hbA hS (i := z1) (vp_in_iff.mpr ⟨by omega, by omega⟩) dL_law_519 ?_
  refine t_i (fun q => ∀ k : Int, (z1 : Int32).toInt = k → q.toInt = gI xs k) (fun _ hk => gI_of hk) (fun z2 sx_519 => ?_)
  refine lv_aload_n hx hb dL_law_520 rfl (lv_at hl 3 rfl) ?_
  refine lv_iload_n hx hb dL_law_521 rfl (lv_at hl 0 rfl) ?_
  refine lv_iconst (v := 2) hx hb dL_law_522 (by decide) ?_
  refine lv_iadd hx hb dL_law_523 ?_
  refine t_i (fun q => q.toInt = i.toInt + 2) (add_i (by show (-2147483648 : Int) ≤ i.toInt + 2; omega) (by show i.toInt + 2 ≤ (2147483647 : Int); omega)) (fun z3 tz3 => ?_)
  refine va_sld hx hb hX hbl hbA hS (i := z3) (vp_in_iff.mpr ⟨by omega, by omega⟩) dL_law_524 ?_
  refine t_i (fun q => ∀ k : Int, (z3 : Int32).toInt = k → q.toInt = gI xs k) (fun _ hk => gI_of hk) (fun z4 sx_524 => ?_)
  have JB_533 : ∀ zb5 : Int32, 0 ≤ zb5.toInt ∧ zb5.toInt ≤ 1 → W p l e room_1 s m #[Value.ref b] below meth c H locs (1000 + g) (1000000 + fs g) (lw_Z below #[Value.ref b] s) (F0 m 533 ls [.int zb5, .int z2, .ref ax]) := by
    intro zb5 hzb5
    refine lv_aload_n hx hb dL_law_533 rfl (lv_at hl 3 rfl) ?_
    refine lv_iload_n hx hb dL_law_534 rfl (lv_at hl 0 rfl) ?_
    refine lv_iconst (v := 3) hx hb dL_law_535 (by decide) ?_
    refine lv_iadd hx hb dL_law_536 ?_
    refine t_i (fun q => q.toInt = i.toInt + 3) (add_i (by show (-2147483648 : Int) ≤ i.toInt + 3; omega) (by show i.toInt + 3 ≤ (2147483647 : Int); omega)) (fun z6 tz6 => ?_)
    refine va_sld hx hb hX hbl hbA hS (i := z6) (vp_in_iff.mpr ⟨by omega, by omega⟩) dL_law_537 ?_
    refine t_i (fun q => ∀ k : Int, (z6 : Int32).toInt = k → q.toInt = gI xs k) (fun _ hk => gI_of hk) (fun z7 sx_537 => ?_)
    refine W.know (fun hgr => ?_)
    refine k_LG hC hN hZ hS hA hK hP hD (xw_span l G cI cJ cB cZ hXI z2 zb5 z7 hzb5) mi_X9_span in_X9_span se_X9_span wm_L_59 9 rfl rfl (hXI.rc) hl.1 rfl rfl (Nat.le_of_ble_eq_true rfl) ⟨(Nat.le_of_ble_eq_true rfl), (Nat.le_of_ble_eq_true rfl)⟩ dL_law_538 (gr_wG hXI.g11) (fun r8 u8 H locs hp hP hD hS hgn => ?_)
    obtain ⟨g8, w8⟩ := u8
    obtain ⟨hXI8, hgg⟩ := hp
    have hXI8 : XI cI cJ cB cZ ax tm g8 w8 := hXI8
    have hgg : g ≤ g8 := hgg
    refine W.tight (k := 1000 + g8) (n := 1000000 + fs g8) (GR.tr4 hgr hgn hgg) ?_
    have hP : va_P G cl (wm ++ w8) H := hP
    have hD : va_D A (wm ++ w8) := hD
    refine lv_pop hx hb dL_law_541 rfl ?_
    refine lv_aload_n hx hb dL_law_542 rfl (lv_at hl 1 rfl) ?_
    refine lv_aload_n hx hb dL_law_543 rfl (lv_at hl 3 rfl) ?_
    refine lv_iload_n hx hb dL_law_544 rfl (lv_at hl 0 rfl) ?_
    refine lv_iconst (v := 1) hx hb dL_law_545 (by decide) ?_
    refine lv_iadd hx hb dL_law_546 ?_
    refine t_i (fun q => q.toInt = i.toInt + 1) (add_i (by show (-2147483648 : Int) ≤ i.toInt + 1; omega) (by show i.toInt + 1 ≤ (2147483647 : Int); omega)) (fun z9 tz9 => ?_)
    refine va_sld hx hb hX hbl hbA hS (i := z9) (vp_in_iff.mpr ⟨by omega, by omega⟩) dL_law_547 ?_
    refine t_i (fun q => ∀ k : Int, (z9 : Int32).toInt = k → q.toInt = gI xs k) (fun _ hk => gI_of hk) (fun z10 sx_547 => ?_)
    refine lv_aload_n hx hb dL_law_548 rfl (lv_at hl 3 rfl) ?_
    refine lv_iload_n hx hb dL_law_549 rfl (lv_at hl 0 rfl) ?_
    refine lv_iconst (v := 2) hx hb dL_law_550 (by decide) ?_
    refine lv_iadd hx hb dL_law_551 ?_
    refine t_i (fun q => q.toInt = i.toInt + 2) (add_i (by show (-2147483648 : Int) ≤ i.toInt + 2; omega) (by show i.toInt + 2 ≤ (2147483647 : Int); omega)) (fun z11 tz11 => ?_)
    refine va_sld hx hb hX hbl hbA hS (i := z11) (vp_in_iff.mpr ⟨by omega, by omega⟩) dL_law_552 ?_
    refine t_i (fun q => ∀ k : Int, (z11 : Int32).toInt = k → q.toInt = gI xs k) (fun _ hk => gI_of hk) (fun z12 sx_552 => ?_)
    have JB_561 : ∀ zb13 : Int32, 0 ≤ zb13.toInt ∧ zb13.toInt ≤ 1 → W p l e room_1 s m #[Value.ref b] below meth c H locs (1000 + g8) (1000000 + fs g8) (lw_Z below #[Value.ref b] s) (F0 m 561 ls [.int zb13, .int z10, .ref am]) := by
      intro zb13 hzb13
      refine lv_aload_n hx hb dL_law_561 rfl (lv_at hl 3 rfl) ?_
      refine lv_iload_n hx hb dL_law_562 rfl (lv_at hl 0 rfl) ?_
      refine lv_iconst (v := 3) hx hb dL_law_563 (by decide) ?_
      refine lv_iadd hx hb dL_law_564 ?_
      refine t_i (fun q => q.toInt = i.toInt + 3) (add_i (by show (-2147483648 : Int) ≤ i.toInt + 3; omega) (by show i.toInt + 3 ≤ (2147483647 : Int); omega)) (fun z14 tz14 => ?_)
      refine va_sld hx hb hX hbl hbA hS (i := z14) (vp_in_iff.mpr ⟨by omega, by omega⟩) dL_law_565 ?_
      refine t_i (fun q => ∀ k : Int, (z14 : Int32).toInt = k → q.toInt = gI xs k) (fun _ hk => gI_of hk) (fun z15 sx_565 => ?_)
      refine k_L hC hN hZ hS hA hK hP hD (mw_span l G cI cJ cB cZ hMJ z10 zb13 z15 hzb13) mi_X10_span in_X10_span se_X10_span wm_L_63 10 rfl rfl (hMJ.rc) hl.1 rfl rfl (Nat.le_of_ble_eq_true rfl) ⟨(Nat.le_of_ble_eq_true rfl), (Nat.le_of_ble_eq_true rfl)⟩ dL_law_566 ⟨rfl, rfl⟩ (gr_w0 hXI8.g11) (fun r16 u16 H locs hp hP hD hS => ?_)
      have hMJ16 : MJ cI cJ cB cZ am tm u16 := hp
      have hP : va_P G cl (w8 ++ u16) H := hP
      have hD : va_D A (w8 ++ u16) := hD
      refine lv_pop hx hb dL_law_569 rfl ?_
      refine lv_goto (tgt := 1428) hx hb dL_law_570 (by decide) ?_
      obtain ⟨z17, ez17⟩ : ∃ q : Int32, q = i + Int32.ofInt 6 := ⟨_, rfl⟩
      have tz17 : z17.toInt = i.toInt + 6 := by rw [ez17]; exact add_i (y := 6) (by have p_ := i_lo i; show _ ≤ _ + (6 : Int); omega) (by have q_ := i_hi i; show _ + (6 : Int) ≤ _; omega)
      refine lv_iinc (v := z17) (lv' := [(3, .int z17), (2, .ref am), (1, .ref ax), (0, .ref b)]) hx hb dL_law_1428 hl (k := 0) rfl ez17.symm (by decide) rfl (fun ls hl => ?_)
      refine lv_goto (tgt := 18) hx hb dL_law_1431 (by decide) ?_
      exact ih g8 tm w8 u16 z17 H locs ls hXI8 hMJ16 (by omega) (by omega) (by omega) hP hD hS (lv_sub hl [0, 1, 2, 3] rfl)
    refine lv_if_eq (tgt := 560) hx hb dL_law_553 (by decide) (fun _ => ?_) (fun _ => ?_)
    · refine lv_iconst (v := 0) hx hb dL_law_560 (by decide) ?_
      exact JB_561 0 (by decide)
    · refine lv_iconst (v := 1) hx hb dL_law_556 (by decide) ?_
      refine lv_goto (tgt := 561) hx hb dL_law_557 (by decide) ?_
      exact JB_561 1 (by decide)
  refine lv_if_eq (tgt := 532) hx hb dL_law_525 (by decide) (fun _ => ?_) (fun _ => ?_)
  · refine lv_iconst (v := 0) hx hb dL_law_532 (by decide) ?_
    exact JB_533 0 (by decide)
  · refine lv_iconst (v := 1) hx hb dL_law_528 (by decide) ?_
    refine lv_goto (tgt := 533) hx hb dL_law_529 (by decide) ?_
    exact JB_533 1 (by decide)
set_option maxRecDepth 100000 in
theorem wm_L_64 : Cond.methodLink RL 64 yX9_isFalse ∈ gw := gm (List.mem_of_getElem? (i := 982) (by decide +kernel)) rfl
set_option maxRecDepth 100000 in
theorem mi_X9_isFalse : MI yX9_isFalse cX9_isFalse 4 (some .int) 2 := ⟨gm (List.mem_of_getElem? (i := 985) rfl) rfl, gm (List.mem_of_getElem? (i := 112) (by decide +kernel)) rfl, by decide, by decide, by decide +kernel⟩
set_option maxRecDepth 100000 in
theorem in_X9_isFalse : Cond.instanceMethod yX9_isFalse ∈ gw := gm (List.mem_of_getElem? (i := 983) (by decide +kernel)) rfl
set_option maxRecDepth 100000 in
theorem se_X9_isFalse : Cond.selects yX9_isFalse.cls yX9_isFalse yX9_isFalse ∈ gw := gm (List.mem_of_getElem? (i := 984) (by decide +kernel)) rfl
set_option maxRecDepth 100000 in
theorem wm_L_68 : Cond.methodLink RL 68 yX10_isFalse ∈ gw := gm (List.mem_of_getElem? (i := 1703) (by decide +kernel)) rfl
set_option maxRecDepth 100000 in
theorem mi_X10_isFalse : MI yX10_isFalse cX10_isFalse 5 (some .int) 2 := ⟨gm (List.mem_of_getElem? (i := 1706) rfl) rfl, gm (List.mem_of_getElem? (i := 124) (by decide +kernel)) rfl, by decide, by decide, by decide +kernel⟩
set_option maxRecDepth 100000 in
theorem in_X10_isFalse : Cond.instanceMethod yX10_isFalse ∈ gw := gm (List.mem_of_getElem? (i := 1704) (by decide +kernel)) rfl
set_option maxRecDepth 100000 in
theorem se_X10_isFalse : Cond.selects yX10_isFalse.cls yX10_isFalse yX10_isFalse ∈ gw := gm (List.mem_of_getElem? (i := 1705) (by decide +kernel)) rfl
set_option maxHeartbeats 8000000 in
set_option maxRecDepth 100000 in
theorem law_isFalse {p : Program} {l : Launch} {e : Env} {s : State} {m : MethodId} {below : List Frame} {meth : Method} {c : Code} {b L ax am : Nat} {xs : Nat → Int32} {A : Nat → Prop} {G : va_G} {cI cJ cB cZ : ClassId} (hC : CallFix p m c code 4 s #[Value.ref b] gw R_law) (hr : meth.sig.returnType = ret) (hlk : meth.locks = false) (hN : NW s) (hZ : SW A s s.heap) (hK : va_K G cl (TY cI cJ cB cZ) s) (hX : va_X b L xs s s.heap) (hbl : b < s.heap.size) (hA : ∀ q, s.heap.size ≤ q → A q) (hbA : ¬ A b) (hfo : ∀ q, A q → s.heap.size ≤ q) {n : Nat} (ih : LI p l e s m below meth c b L A G cI cJ cB cZ ax am n) (g : Nat) (tm : Int) (wx wm : va_W) (i : Int32) (H : Heap) (locs : List Loc) (ls : Array Slot) (hXI : XI cI cJ cB cZ ax tm g wx) (hMJ : MJ cI cJ cB cZ am tm wm) (hi0 : 0 ≤ i.toInt) (hiL : i.toInt ≤ (L : Int) + 6) (hL : L ≤ 3072) (hm : (L : Int) + 6 - i.toInt < (n : Int) + 1) (hi6 : i.toInt + 6 ≤ (L : Int)) (hP : va_P G cl (wx ++ wm) H) (hD : va_D A (wx ++ wm)) (hS : va_S A s.heap H locs) (hl : lv_has ls 4 [(3, .int i), (2, .ref am), (1, .ref ax), (0, .ref b)]) : W p l e room_1 s m #[Value.ref b] below meth c H locs (1000 + g) (1000000 + fs g) (lw_Z below #[Value.ref b] s) (F0 m 573 ls []) := by
  obtain ⟨hx, hb, hml, hown, hts⟩ := id hC
  refine lv_aload_n hx hb dL_law_573 rfl (lv_at hl 2 rfl) ?_
  refine lv_aload_n hx hb dL_law_574 rfl (lv_at hl 3 rfl) ?_
  refine lv_iload_n hx hb dL_law_575 rfl (lv_at hl 0 rfl) ?_
  refine lv_iconst (v := 1) hx hb dL_law_576 (by decide) ?_
  refine lv_iadd hx hb dL_law_577 ?_
  refine t_i (fun q => q.toInt = i.toInt + 1) (add_i (by show (-2147483648 : Int) ≤ i.toInt + 1; omega) (by show i.toInt + 1 ≤ (2147483647 : Int); omega)) (fun z1 tz1 => ?_)
  refine va_sld hx hb hX hbl hbA hS (i := z1) (vp_in_iff.mpr ⟨by omega, by omega⟩) dL_law_578 ?_
  refine t_i (fun q => ∀ k : Int, (z1 : Int32).toInt = k → q.toInt = gI xs k) (fun _ hk => gI_of hk) (fun z2 sx_578 => ?_)
  refine lv_aload_n hx hb dL_law_579 rfl (lv_at hl 3 rfl) ?_
  refine lv_iload_n hx hb dL_law_580 rfl (lv_at hl 0 rfl) ?_
  refine lv_iconst (v := 2) hx hb dL_law_581 (by decide) ?_
  refine lv_iadd hx hb dL_law_582 ?_
  refine t_i (fun q => q.toInt = i.toInt + 2) (add_i (by show (-2147483648 : Int) ≤ i.toInt + 2; omega) (by show i.toInt + 2 ≤ (2147483647 : Int); omega)) (fun z3 tz3 => ?_)
  refine va_sld hx hb hX hbl hbA hS (i := z3) (vp_in_iff.mpr ⟨by omega, by omega⟩) dL_law_583 ?_
  refine t_i (fun q => ∀ k : Int, (z3 : Int32).toInt = k → q.toInt = gI xs k) (fun _ hk => gI_of hk) (fun z4 sx_583 => ?_)
  refine W.know (fun hgr => ?_)
  refine k_LG hC hN hZ hS hA hK hP hD (xw_isFalse l G cI cJ cB cZ hXI z2 z4) mi_X9_isFalse in_X9_isFalse se_X9_isFalse wm_L_64 9 rfl rfl (hXI.rc) hl.1 rfl rfl (Nat.le_of_ble_eq_true rfl) ⟨(Nat.le_of_ble_eq_true rfl), (Nat.le_of_ble_eq_true rfl)⟩ dL_law_584 (gr_wG hXI.g11) (fun r5 u5 H locs hp hP hD hS hgn => ?_)
  obtain ⟨g5, w5⟩ := u5
  obtain ⟨hXI5, hgg⟩ := hp
  have hXI5 : XI cI cJ cB cZ ax tm g5 w5 := hXI5
  have hgg : g ≤ g5 := hgg
  refine W.tight (k := 1000 + g5) (n := 1000000 + fs g5) (GR.tr4 hgr hgn hgg) ?_
  have hP : va_P G cl (wm ++ w5) H := hP
  have hD : va_D A (wm ++ w5) := hD
  refine lv_pop hx hb dL_law_587 rfl ?_
  refine lv_aload_n hx hb dL_law_588 rfl (lv_at hl 1 rfl) ?_
  refine lv_aload_n hx hb dL_law_589 rfl (lv_at hl 3 rfl) ?_
  refine lv_iload_n hx hb dL_law_590 rfl (lv_at hl 0 rfl) ?_
  refine lv_iconst (v := 1) hx hb dL_law_591 (by decide) ?_
  refine lv_iadd hx hb dL_law_592 ?_
  refine t_i (fun q => q.toInt = i.toInt + 1) (add_i (by show (-2147483648 : Int) ≤ i.toInt + 1; omega) (by show i.toInt + 1 ≤ (2147483647 : Int); omega)) (fun z6 tz6 => ?_)
  refine va_sld hx hb hX hbl hbA hS (i := z6) (vp_in_iff.mpr ⟨by omega, by omega⟩) dL_law_593 ?_
  refine t_i (fun q => ∀ k : Int, (z6 : Int32).toInt = k → q.toInt = gI xs k) (fun _ hk => gI_of hk) (fun z7 sx_593 => ?_)
  refine lv_aload_n hx hb dL_law_594 rfl (lv_at hl 3 rfl) ?_
  refine lv_iload_n hx hb dL_law_595 rfl (lv_at hl 0 rfl) ?_
  refine lv_iconst (v := 2) hx hb dL_law_596 (by decide) ?_
  refine lv_iadd hx hb dL_law_597 ?_
  refine t_i (fun q => q.toInt = i.toInt + 2) (add_i (by show (-2147483648 : Int) ≤ i.toInt + 2; omega) (by show i.toInt + 2 ≤ (2147483647 : Int); omega)) (fun z8 tz8 => ?_)
  refine va_sld hx hb hX hbl hbA hS (i := z8) (vp_in_iff.mpr ⟨by omega, by omega⟩) dL_law_598 ?_
  refine t_i (fun q => ∀ k : Int, (z8 : Int32).toInt = k → q.toInt = gI xs k) (fun _ hk => gI_of hk) (fun z9 sx_598 => ?_)
  refine k_L hC hN hZ hS hA hK hP hD (mw_isFalse l G cI cJ cB cZ hMJ z7 z9) mi_X10_isFalse in_X10_isFalse se_X10_isFalse wm_L_68 10 rfl rfl (hMJ.rc) hl.1 rfl rfl (Nat.le_of_ble_eq_true rfl) ⟨(Nat.le_of_ble_eq_true rfl), (Nat.le_of_ble_eq_true rfl)⟩ dL_law_599 ⟨rfl, rfl⟩ (gr_w0 hXI5.g11) (fun r10 u10 H locs hp hP hD hS => ?_)
  have hMJ10 : MJ cI cJ cB cZ am tm u10 := hp
  have hP : va_P G cl (w5 ++ u10) H := hP
  have hD : va_D A (w5 ++ u10) := hD
  refine lv_pop hx hb dL_law_602 rfl ?_
  refine lv_goto (tgt := 1428) hx hb dL_law_603 (by decide) ?_
  obtain ⟨z11, ez11⟩ : ∃ q : Int32, q = i + Int32.ofInt 6 := ⟨_, rfl⟩
  have tz11 : z11.toInt = i.toInt + 6 := by rw [ez11]; exact add_i (y := 6) (by have p_ := i_lo i; show _ ≤ _ + (6 : Int); omega) (by have q_ := i_hi i; show _ + (6 : Int) ≤ _; omega)
  refine lv_iinc (v := z11) (lv' := [(3, .int z11), (2, .ref am), (1, .ref ax), (0, .ref b)]) hx hb dL_law_1428 hl (k := 0) rfl ez11.symm (by decide) rfl (fun ls hl => ?_)
  refine lv_goto (tgt := 18) hx hb dL_law_1431 (by decide) ?_
  exact ih g5 tm w5 u10 z11 H locs ls hXI5 hMJ10 (by omega) (by omega) (by omega) hP hD hS (lv_sub hl [0, 1, 2, 3] rfl)
set_option maxRecDepth 100000 in
theorem wm_L_69 : Cond.methodLink RL 69 yX9_fewest ∈ gw := gm (List.mem_of_getElem? (i := 1002) (by decide +kernel)) rfl
set_option maxRecDepth 100000 in
theorem mi_X9_fewest : MI yX9_fewest cX9_fewest 3 (some .int) 1 := ⟨gm (List.mem_of_getElem? (i := 1005) rfl) rfl, gm (List.mem_of_getElem? (i := 112) (by decide +kernel)) rfl, by decide, by decide, by decide +kernel⟩
set_option maxRecDepth 100000 in
theorem in_X9_fewest : Cond.instanceMethod yX9_fewest ∈ gw := gm (List.mem_of_getElem? (i := 1003) (by decide +kernel)) rfl
set_option maxRecDepth 100000 in
theorem se_X9_fewest : Cond.selects yX9_fewest.cls yX9_fewest yX9_fewest ∈ gw := gm (List.mem_of_getElem? (i := 1004) (by decide +kernel)) rfl
set_option maxRecDepth 100000 in
theorem wm_L_72 : Cond.methodLink RL 72 yX10_fewest ∈ gw := gm (List.mem_of_getElem? (i := 1715) (by decide +kernel)) rfl
set_option maxRecDepth 100000 in
theorem mi_X10_fewest : MI yX10_fewest cX10_fewest 2 (some .int) 1 := ⟨gm (List.mem_of_getElem? (i := 1718) rfl) rfl, gm (List.mem_of_getElem? (i := 124) (by decide +kernel)) rfl, by decide, by decide, by decide +kernel⟩
set_option maxRecDepth 100000 in
theorem in_X10_fewest : Cond.instanceMethod yX10_fewest ∈ gw := gm (List.mem_of_getElem? (i := 1716) (by decide +kernel)) rfl
set_option maxRecDepth 100000 in
theorem se_X10_fewest : Cond.selects yX10_fewest.cls yX10_fewest yX10_fewest ∈ gw := gm (List.mem_of_getElem? (i := 1717) (by decide +kernel)) rfl
set_option maxHeartbeats 8000000 in
set_option maxRecDepth 100000 in
theorem law_fewest {p : Program} {l : Launch} {e : Env} {s : State} {m : MethodId} {below : List Frame} {meth : Method} {c : Code} {b L ax am : Nat} {xs : Nat → Int32} {A : Nat → Prop} {G : va_G} {cI cJ cB cZ : ClassId} (hC : CallFix p m c code 4 s #[Value.ref b] gw R_law) (hr : meth.sig.returnType = ret) (hlk : meth.locks = false) (hN : NW s) (hZ : SW A s s.heap) (hK : va_K G cl (TY cI cJ cB cZ) s) (hX : va_X b L xs s s.heap) (hbl : b < s.heap.size) (hA : ∀ q, s.heap.size ≤ q → A q) (hbA : ¬ A b) (hfo : ∀ q, A q → s.heap.size ≤ q) {n : Nat} (ih : LI p l e s m below meth c b L A G cI cJ cB cZ ax am n) (g : Nat) (tm : Int) (wx wm : va_W) (i : Int32) (H : Heap) (locs : List Loc) (ls : Array Slot) (hXI : XI cI cJ cB cZ ax tm g wx) (hMJ : MJ cI cJ cB cZ am tm wm) (hi0 : 0 ≤ i.toInt) (hiL : i.toInt ≤ (L : Int) + 6) (hL : L ≤ 3072) (hm : (L : Int) + 6 - i.toInt < (n : Int) + 1) (hi6 : i.toInt + 6 ≤ (L : Int)) (hP : va_P G cl (wx ++ wm) H) (hD : va_D A (wx ++ wm)) (hS : va_S A s.heap H locs) (hl : lv_has ls 4 [(3, .int i), (2, .ref am), (1, .ref ax), (0, .ref b)]) : W p l e room_1 s m #[Value.ref b] below meth c H locs (1000 + g) (1000000 + fs g) (lw_Z below #[Value.ref b] s) (F0 m 606 ls []) := by
  obtain ⟨hx, hb, hml, hown, hts⟩ := id hC
  refine lv_aload_n hx hb dL_law_606 rfl (lv_at hl 2 rfl) ?_
  refine lv_aload_n hx hb dL_law_607 rfl (lv_at hl 3 rfl) ?_
  refine lv_iload_n hx hb dL_law_608 rfl (lv_at hl 0 rfl) ?_
  refine lv_iconst (v := 1) hx hb dL_law_609 (by decide) ?_
  refine lv_iadd hx hb dL_law_610 ?_
  refine t_i (fun q => q.toInt = i.toInt + 1) (add_i (by show (-2147483648 : Int) ≤ i.toInt + 1; omega) (by show i.toInt + 1 ≤ (2147483647 : Int); omega)) (fun z1 tz1 => ?_)
  refine va_sld hx hb hX hbl hbA hS (i := z1) (vp_in_iff.mpr ⟨by omega, by omega⟩) dL_law_611 ?_
  refine t_i (fun q => ∀ k : Int, (z1 : Int32).toInt = k → q.toInt = gI xs k) (fun _ hk => gI_of hk) (fun z2 sx_611 => ?_)
  refine W.know (fun hgr => ?_)
  refine k_LG hC hN hZ hS hA hK hP hD (xw_fewest l G cI cJ cB cZ hXI z2) mi_X9_fewest in_X9_fewest se_X9_fewest wm_L_69 9 rfl rfl (hXI.rc) hl.1 rfl rfl (Nat.le_of_ble_eq_true rfl) ⟨(Nat.le_of_ble_eq_true rfl), (Nat.le_of_ble_eq_true rfl)⟩ dL_law_612 (gr_wG hXI.g11) (fun r3 u3 H locs hp hP hD hS hgn => ?_)
  obtain ⟨g3, w3⟩ := u3
  obtain ⟨hXI3, hgg⟩ := hp
  have hXI3 : XI cI cJ cB cZ ax tm g3 w3 := hXI3
  have hgg : g ≤ g3 := hgg
  refine W.tight (k := 1000 + g3) (n := 1000000 + fs g3) (GR.tr4 hgr hgn hgg) ?_
  have hP : va_P G cl (wm ++ w3) H := hP
  have hD : va_D A (wm ++ w3) := hD
  refine lv_pop hx hb dL_law_615 rfl ?_
  refine lv_aload_n hx hb dL_law_616 rfl (lv_at hl 1 rfl) ?_
  refine lv_aload_n hx hb dL_law_617 rfl (lv_at hl 3 rfl) ?_
  refine lv_iload_n hx hb dL_law_618 rfl (lv_at hl 0 rfl) ?_
  refine lv_iconst (v := 1) hx hb dL_law_619 (by decide) ?_
  refine lv_iadd hx hb dL_law_620 ?_
  refine t_i (fun q => q.toInt = i.toInt + 1) (add_i (by show (-2147483648 : Int) ≤ i.toInt + 1; omega) (by show i.toInt + 1 ≤ (2147483647 : Int); omega)) (fun z4 tz4 => ?_)
  refine va_sld hx hb hX hbl hbA hS (i := z4) (vp_in_iff.mpr ⟨by omega, by omega⟩) dL_law_621 ?_
  refine t_i (fun q => ∀ k : Int, (z4 : Int32).toInt = k → q.toInt = gI xs k) (fun _ hk => gI_of hk) (fun z5 sx_621 => ?_)
  refine k_L hC hN hZ hS hA hK hP hD (mw_fewest l G cI cJ cB cZ hMJ z5) mi_X10_fewest in_X10_fewest se_X10_fewest wm_L_72 10 rfl rfl (hMJ.rc) hl.1 rfl rfl (Nat.le_of_ble_eq_true rfl) ⟨(Nat.le_of_ble_eq_true rfl), (Nat.le_of_ble_eq_true rfl)⟩ dL_law_622 ⟨rfl, rfl⟩ (gr_w0 hXI3.g11) (fun r6 u6 H locs hp hP hD hS => ?_)
  have hMJ6 : MJ cI cJ cB cZ am tm u6 := hp
  have hP : va_P G cl (w3 ++ u6) H := hP
  have hD : va_D A (w3 ++ u6) := hD
  refine lv_pop hx hb dL_law_625 rfl ?_
  refine lv_goto (tgt := 1428) hx hb dL_law_626 (by decide) ?_
  obtain ⟨z7, ez7⟩ : ∃ q : Int32, q = i + Int32.ofInt 6 := ⟨_, rfl⟩
  have tz7 : z7.toInt = i.toInt + 6 := by rw [ez7]; exact add_i (y := 6) (by have p_ := i_lo i; show _ ≤ _ + (6 : Int); omega) (by have q_ := i_hi i; show _ + (6 : Int) ≤ _; omega)
  refine lv_iinc (v := z7) (lv' := [(3, .int z7), (2, .ref am), (1, .ref ax), (0, .ref b)]) hx hb dL_law_1428 hl (k := 0) rfl ez7.symm (by decide) rfl (fun ls hl => ?_)
  refine lv_goto (tgt := 18) hx hb dL_law_1431 (by decide) ?_
  exact ih g3 tm w3 u6 z7 H locs ls hXI3 hMJ6 (by omega) (by omega) (by omega) hP hD hS (lv_sub hl [0, 1, 2, 3] rfl)
set_option maxRecDepth 100000 in
theorem wm_L_73 : Cond.methodLink RL 73 yX9_sets ∈ gw := gm (List.mem_of_getElem? (i := 1011) (by decide +kernel)) rfl
set_option maxRecDepth 100000 in
theorem mi_X9_sets : MI yX9_sets cX9_sets 3 (some .int) 1 := ⟨gm (List.mem_of_getElem? (i := 1014) rfl) rfl, gm (List.mem_of_getElem? (i := 112) (by decide +kernel)) rfl, by decide, by decide, by decide +kernel⟩
set_option maxRecDepth 100000 in
theorem in_X9_sets : Cond.instanceMethod yX9_sets ∈ gw := gm (List.mem_of_getElem? (i := 1012) (by decide +kernel)) rfl
set_option maxRecDepth 100000 in
theorem se_X9_sets : Cond.selects yX9_sets.cls yX9_sets yX9_sets ∈ gw := gm (List.mem_of_getElem? (i := 1013) (by decide +kernel)) rfl
set_option maxRecDepth 100000 in
theorem wm_L_76 : Cond.methodLink RL 76 yX10_sets ∈ gw := gm (List.mem_of_getElem? (i := 1726) (by decide +kernel)) rfl
set_option maxRecDepth 100000 in
theorem mi_X10_sets : MI yX10_sets cX10_sets 4 (some .int) 1 := ⟨gm (List.mem_of_getElem? (i := 1729) rfl) rfl, gm (List.mem_of_getElem? (i := 124) (by decide +kernel)) rfl, by decide, by decide, by decide +kernel⟩
set_option maxRecDepth 100000 in
theorem in_X10_sets : Cond.instanceMethod yX10_sets ∈ gw := gm (List.mem_of_getElem? (i := 1727) (by decide +kernel)) rfl
set_option maxRecDepth 100000 in
theorem se_X10_sets : Cond.selects yX10_sets.cls yX10_sets yX10_sets ∈ gw := gm (List.mem_of_getElem? (i := 1728) (by decide +kernel)) rfl
set_option maxHeartbeats 8000000 in
set_option maxRecDepth 100000 in
theorem law_sets {p : Program} {l : Launch} {e : Env} {s : State} {m : MethodId} {below : List Frame} {meth : Method} {c : Code} {b L ax am : Nat} {xs : Nat → Int32} {A : Nat → Prop} {G : va_G} {cI cJ cB cZ : ClassId} (hC : CallFix p m c code 4 s #[Value.ref b] gw R_law) (hr : meth.sig.returnType = ret) (hlk : meth.locks = false) (hN : NW s) (hZ : SW A s s.heap) (hK : va_K G cl (TY cI cJ cB cZ) s) (hX : va_X b L xs s s.heap) (hbl : b < s.heap.size) (hA : ∀ q, s.heap.size ≤ q → A q) (hbA : ¬ A b) (hfo : ∀ q, A q → s.heap.size ≤ q) {n : Nat} (ih : LI p l e s m below meth c b L A G cI cJ cB cZ ax am n) (g : Nat) (tm : Int) (wx wm : va_W) (i : Int32) (H : Heap) (locs : List Loc) (ls : Array Slot) (hXI : XI cI cJ cB cZ ax tm g wx) (hMJ : MJ cI cJ cB cZ am tm wm) (hi0 : 0 ≤ i.toInt) (hiL : i.toInt ≤ (L : Int) + 6) (hL : L ≤ 3072) (hm : (L : Int) + 6 - i.toInt < (n : Int) + 1) (hi6 : i.toInt + 6 ≤ (L : Int)) (hP : va_P G cl (wx ++ wm) H) (hD : va_D A (wx ++ wm)) (hS : va_S A s.heap H locs) (hl : lv_has ls 4 [(3, .int i), (2, .ref am), (1, .ref ax), (0, .ref b)]) : W p l e room_1 s m #[Value.ref b] below meth c H locs (1000 + g) (1000000 + fs g) (lw_Z below #[Value.ref b] s) (F0 m 629 ls []) := by
  obtain ⟨hx, hb, hml, hown, hts⟩ := id hC
  refine lv_aload_n hx hb dL_law_629 rfl (lv_at hl 2 rfl) ?_
  refine lv_aload_n hx hb dL_law_630 rfl (lv_at hl 3 rfl) ?_
  refine lv_iload_n hx hb dL_law_631 rfl (lv_at hl 0 rfl) ?_
  refine lv_iconst (v := 1) hx hb dL_law_632 (by decide) ?_
  refine lv_iadd hx hb dL_law_633 ?_
  refine t_i (fun q => q.toInt = i.toInt + 1) (add_i (by show (-2147483648 : Int) ≤ i.toInt + 1; omega) (by show i.toInt + 1 ≤ (2147483647 : Int); omega)) (fun z1 tz1 => ?_)
  refine va_sld hx hb hX hbl hbA hS (i := z1) (vp_in_iff.mpr ⟨by omega, by omega⟩) dL_law_634 ?_
  refine t_i (fun q => ∀ k : Int, (z1 : Int32).toInt = k → q.toInt = gI xs k) (fun _ hk => gI_of hk) (fun z2 sx_634 => ?_)
  refine W.know (fun hgr => ?_)
  refine k_LG hC hN hZ hS hA hK hP hD (xw_sets l G cI cJ cB cZ hXI z2) mi_X9_sets in_X9_sets se_X9_sets wm_L_73 9 rfl rfl (hXI.rc) hl.1 rfl rfl (Nat.le_of_ble_eq_true rfl) ⟨(Nat.le_of_ble_eq_true rfl), (Nat.le_of_ble_eq_true rfl)⟩ dL_law_635 (gr_wG hXI.g11) (fun r3 u3 H locs hp hP hD hS hgn => ?_)
  obtain ⟨g3, w3⟩ := u3
  obtain ⟨hXI3, hgg⟩ := hp
  have hXI3 : XI cI cJ cB cZ ax tm g3 w3 := hXI3
  have hgg : g ≤ g3 := hgg
  refine W.tight (k := 1000 + g3) (n := 1000000 + fs g3) (GR.tr4 hgr hgn hgg) ?_
  have hP : va_P G cl (wm ++ w3) H := hP
  have hD : va_D A (wm ++ w3) := hD
  refine lv_pop hx hb dL_law_638 rfl ?_
  refine lv_aload_n hx hb dL_law_639 rfl (lv_at hl 1 rfl) ?_
  refine lv_aload_n hx hb dL_law_640 rfl (lv_at hl 3 rfl) ?_
  refine lv_iload_n hx hb dL_law_641 rfl (lv_at hl 0 rfl) ?_
  refine lv_iconst (v := 1) hx hb dL_law_642 (by decide) ?_
  refine lv_iadd hx hb dL_law_643 ?_
  refine t_i (fun q => q.toInt = i.toInt + 1) (add_i (by show (-2147483648 : Int) ≤ i.toInt + 1; omega) (by show i.toInt + 1 ≤ (2147483647 : Int); omega)) (fun z4 tz4 => ?_)
  refine va_sld hx hb hX hbl hbA hS (i := z4) (vp_in_iff.mpr ⟨by omega, by omega⟩) dL_law_644 ?_
  refine t_i (fun q => ∀ k : Int, (z4 : Int32).toInt = k → q.toInt = gI xs k) (fun _ hk => gI_of hk) (fun z5 sx_644 => ?_)
  refine k_L hC hN hZ hS hA hK hP hD (mw_sets l G cI cJ cB cZ hMJ z5) mi_X10_sets in_X10_sets se_X10_sets wm_L_76 10 rfl rfl (hMJ.rc) hl.1 rfl rfl (Nat.le_of_ble_eq_true rfl) ⟨(Nat.le_of_ble_eq_true rfl), (Nat.le_of_ble_eq_true rfl)⟩ dL_law_645 ⟨rfl, rfl⟩ (gr_w0 hXI3.g11) (fun r6 u6 H locs hp hP hD hS => ?_)
  have hMJ6 : MJ cI cJ cB cZ am tm u6 := hp
  have hP : va_P G cl (w3 ++ u6) H := hP
  have hD : va_D A (w3 ++ u6) := hD
  refine lv_pop hx hb dL_law_648 rfl ?_
  refine lv_goto (tgt := 1428) hx hb dL_law_649 (by decide) ?_
  obtain ⟨z7, ez7⟩ : ∃ q : Int32, q = i + Int32.ofInt 6 := ⟨_, rfl⟩
  have tz7 : z7.toInt = i.toInt + 6 := by rw [ez7]; exact add_i (y := 6) (by have p_ := i_lo i; show _ ≤ _ + (6 : Int); omega) (by have q_ := i_hi i; show _ + (6 : Int) ≤ _; omega)
  refine lv_iinc (v := z7) (lv' := [(3, .int z7), (2, .ref am), (1, .ref ax), (0, .ref b)]) hx hb dL_law_1428 hl (k := 0) rfl ez7.symm (by decide) rfl (fun ls hl => ?_)
  refine lv_goto (tgt := 18) hx hb dL_law_1431 (by decide) ?_
  exact ih g3 tm w3 u6 z7 H locs ls hXI3 hMJ6 (by omega) (by omega) (by omega) hP hD hS (lv_sub hl [0, 1, 2, 3] rfl)
set_option maxRecDepth 100000 in
theorem wm_L_77 : Cond.methodLink RL 77 yX9_set ∈ gw := gm (List.mem_of_getElem? (i := 1020) (by decide +kernel)) rfl
set_option maxRecDepth 100000 in
theorem mi_X9_set : MI yX9_set cX9_set 3 (some .int) 2 := ⟨gm (List.mem_of_getElem? (i := 1023) rfl) rfl, gm (List.mem_of_getElem? (i := 112) (by decide +kernel)) rfl, by decide, by decide, by decide +kernel⟩
set_option maxRecDepth 100000 in
theorem in_X9_set : Cond.instanceMethod yX9_set ∈ gw := gm (List.mem_of_getElem? (i := 1021) (by decide +kernel)) rfl
set_option maxRecDepth 100000 in
theorem se_X9_set : Cond.selects yX9_set.cls yX9_set yX9_set ∈ gw := gm (List.mem_of_getElem? (i := 1022) (by decide +kernel)) rfl
set_option maxRecDepth 100000 in
theorem wm_L_80 : Cond.methodLink RL 80 yX10_set ∈ gw := gm (List.mem_of_getElem? (i := 1730) (by decide +kernel)) rfl
set_option maxRecDepth 100000 in
theorem mi_X10_set : MI yX10_set cX10_set 5 (some .int) 2 := ⟨gm (List.mem_of_getElem? (i := 1733) rfl) rfl, gm (List.mem_of_getElem? (i := 124) (by decide +kernel)) rfl, by decide, by decide, by decide +kernel⟩
set_option maxRecDepth 100000 in
theorem in_X10_set : Cond.instanceMethod yX10_set ∈ gw := gm (List.mem_of_getElem? (i := 1731) (by decide +kernel)) rfl
set_option maxRecDepth 100000 in
theorem se_X10_set : Cond.selects yX10_set.cls yX10_set yX10_set ∈ gw := gm (List.mem_of_getElem? (i := 1732) (by decide +kernel)) rfl
set_option maxHeartbeats 8000000 in
set_option maxRecDepth 100000 in
theorem law_set {p : Program} {l : Launch} {e : Env} {s : State} {m : MethodId} {below : List Frame} {meth : Method} {c : Code} {b L ax am : Nat} {xs : Nat → Int32} {A : Nat → Prop} {G : va_G} {cI cJ cB cZ : ClassId} (hC : CallFix p m c code 4 s #[Value.ref b] gw R_law) (hr : meth.sig.returnType = ret) (hlk : meth.locks = false) (hN : NW s) (hZ : SW A s s.heap) (hK : va_K G cl (TY cI cJ cB cZ) s) (hX : va_X b L xs s s.heap) (hbl : b < s.heap.size) (hA : ∀ q, s.heap.size ≤ q → A q) (hbA : ¬ A b) (hfo : ∀ q, A q → s.heap.size ≤ q) {n : Nat} (ih : LI p l e s m below meth c b L A G cI cJ cB cZ ax am n) (g : Nat) (tm : Int) (wx wm : va_W) (i : Int32) (H : Heap) (locs : List Loc) (ls : Array Slot) (hXI : XI cI cJ cB cZ ax tm g wx) (hMJ : MJ cI cJ cB cZ am tm wm) (hi0 : 0 ≤ i.toInt) (hiL : i.toInt ≤ (L : Int) + 6) (hL : L ≤ 3072) (hm : (L : Int) + 6 - i.toInt < (n : Int) + 1) (hi6 : i.toInt + 6 ≤ (L : Int)) (hP : va_P G cl (wx ++ wm) H) (hD : va_D A (wx ++ wm)) (hS : va_S A s.heap H locs) (hl : lv_has ls 4 [(3, .int i), (2, .ref am), (1, .ref ax), (0, .ref b)]) : W p l e room_1 s m #[Value.ref b] below meth c H locs (1000 + g) (1000000 + fs g) (lw_Z below #[Value.ref b] s) (F0 m 652 ls []) := by
  obtain ⟨hx, hb, hml, hown, hts⟩ := id hC
  refine lv_aload_n hx hb dL_law_652 rfl (lv_at hl 2 rfl) ?_
  refine lv_aload_n hx hb dL_law_653 rfl (lv_at hl 3 rfl) ?_
  refine lv_iload_n hx hb dL_law_654 rfl (lv_at hl 0 rfl) ?_
  refine lv_iconst (v := 1) hx hb dL_law_655 (by decide) ?_
  refine lv_iadd hx hb dL_law_656 ?_
  refine t_i (fun q => q.toInt = i.toInt + 1) (add_i (by show (-2147483648 : Int) ≤ i.toInt + 1; omega) (by show i.toInt + 1 ≤ (2147483647 : Int); omega)) (fun z1 tz1 => ?_)
  refine va_sld hx hb hX hbl hbA hS (i := z1) (vp_in_iff.mpr ⟨by omega, by omega⟩) dL_law_657 ?_
  refine t_i (fun q => ∀ k : Int, (z1 : Int32).toInt = k → q.toInt = gI xs k) (fun _ hk => gI_of hk) (fun z2 sx_657 => ?_)
  refine lv_aload_n hx hb dL_law_658 rfl (lv_at hl 3 rfl) ?_
  refine lv_iload_n hx hb dL_law_659 rfl (lv_at hl 0 rfl) ?_
  refine lv_iconst (v := 2) hx hb dL_law_660 (by decide) ?_
  refine lv_iadd hx hb dL_law_661 ?_
  refine t_i (fun q => q.toInt = i.toInt + 2) (add_i (by show (-2147483648 : Int) ≤ i.toInt + 2; omega) (by show i.toInt + 2 ≤ (2147483647 : Int); omega)) (fun z3 tz3 => ?_)
  refine va_sld hx hb hX hbl hbA hS (i := z3) (vp_in_iff.mpr ⟨by omega, by omega⟩) dL_law_662 ?_
  refine t_i (fun q => ∀ k : Int, (z3 : Int32).toInt = k → q.toInt = gI xs k) (fun _ hk => gI_of hk) (fun z4 sx_662 => ?_)
  refine W.know (fun hgr => ?_)
  refine k_LG hC hN hZ hS hA hK hP hD (xw_set l G cI cJ cB cZ hXI z2 z4) mi_X9_set in_X9_set se_X9_set wm_L_77 9 rfl rfl (hXI.rc) hl.1 rfl rfl (Nat.le_of_ble_eq_true rfl) ⟨(Nat.le_of_ble_eq_true rfl), (Nat.le_of_ble_eq_true rfl)⟩ dL_law_663 (gr_wG hXI.g11) (fun r5 u5 H locs hp hP hD hS hgn => ?_)
  obtain ⟨g5, w5⟩ := u5
  obtain ⟨hXI5, hgg⟩ := hp
  have hXI5 : XI cI cJ cB cZ ax tm g5 w5 := hXI5
  have hgg : g ≤ g5 := hgg
  refine W.tight (k := 1000 + g5) (n := 1000000 + fs g5) (GR.tr4 hgr hgn hgg) ?_
  have hP : va_P G cl (wm ++ w5) H := hP
  have hD : va_D A (wm ++ w5) := hD
  refine lv_pop hx hb dL_law_666 rfl ?_
  refine lv_aload_n hx hb dL_law_667 rfl (lv_at hl 1 rfl) ?_
  refine lv_aload_n hx hb dL_law_668 rfl (lv_at hl 3 rfl) ?_
  refine lv_iload_n hx hb dL_law_669 rfl (lv_at hl 0 rfl) ?_
  refine lv_iconst (v := 1) hx hb dL_law_670 (by decide) ?_
  refine lv_iadd hx hb dL_law_671 ?_
  refine t_i (fun q => q.toInt = i.toInt + 1) (add_i (by show (-2147483648 : Int) ≤ i.toInt + 1; omega) (by show i.toInt + 1 ≤ (2147483647 : Int); omega)) (fun z6 tz6 => ?_)
  refine va_sld hx hb hX hbl hbA hS (i := z6) (vp_in_iff.mpr ⟨by omega, by omega⟩) dL_law_672 ?_
  refine t_i (fun q => ∀ k : Int, (z6 : Int32).toInt = k → q.toInt = gI xs k) (fun _ hk => gI_of hk) (fun z7 sx_672 => ?_)
  refine lv_aload_n hx hb dL_law_673 rfl (lv_at hl 3 rfl) ?_
  refine lv_iload_n hx hb dL_law_674 rfl (lv_at hl 0 rfl) ?_
  refine lv_iconst (v := 2) hx hb dL_law_675 (by decide) ?_
  refine lv_iadd hx hb dL_law_676 ?_
  refine t_i (fun q => q.toInt = i.toInt + 2) (add_i (by show (-2147483648 : Int) ≤ i.toInt + 2; omega) (by show i.toInt + 2 ≤ (2147483647 : Int); omega)) (fun z8 tz8 => ?_)
  refine va_sld hx hb hX hbl hbA hS (i := z8) (vp_in_iff.mpr ⟨by omega, by omega⟩) dL_law_677 ?_
  refine t_i (fun q => ∀ k : Int, (z8 : Int32).toInt = k → q.toInt = gI xs k) (fun _ hk => gI_of hk) (fun z9 sx_677 => ?_)
  refine k_L hC hN hZ hS hA hK hP hD (mw_set l G cI cJ cB cZ hMJ z7 z9) mi_X10_set in_X10_set se_X10_set wm_L_80 10 rfl rfl (hMJ.rc) hl.1 rfl rfl (Nat.le_of_ble_eq_true rfl) ⟨(Nat.le_of_ble_eq_true rfl), (Nat.le_of_ble_eq_true rfl)⟩ dL_law_678 ⟨rfl, rfl⟩ (gr_w0 hXI5.g11) (fun r10 u10 H locs hp hP hD hS => ?_)
  have hMJ10 : MJ cI cJ cB cZ am tm u10 := hp
  have hP : va_P G cl (w5 ++ u10) H := hP
  have hD : va_D A (w5 ++ u10) := hD
  refine lv_pop hx hb dL_law_681 rfl ?_
  refine lv_goto (tgt := 1428) hx hb dL_law_682 (by decide) ?_
  obtain ⟨z11, ez11⟩ : ∃ q : Int32, q = i + Int32.ofInt 6 := ⟨_, rfl⟩
  have tz11 : z11.toInt = i.toInt + 6 := by rw [ez11]; exact add_i (y := 6) (by have p_ := i_lo i; show _ ≤ _ + (6 : Int); omega) (by have q_ := i_hi i; show _ + (6 : Int) ≤ _; omega)
  refine lv_iinc (v := z11) (lv' := [(3, .int z11), (2, .ref am), (1, .ref ax), (0, .ref b)]) hx hb dL_law_1428 hl (k := 0) rfl ez11.symm (by decide) rfl (fun ls hl => ?_)
  refine lv_goto (tgt := 18) hx hb dL_law_1431 (by decide) ?_
  exact ih g5 tm w5 u10 z11 H locs ls hXI5 hMJ10 (by omega) (by omega) (by omega) hP hD hS (lv_sub hl [0, 1, 2, 3] rfl)
set_option maxRecDepth 100000 in
theorem wm_L_81 : Cond.methodLink RL 81 yX9_next ∈ gw := gm (List.mem_of_getElem? (i := 1028) (by decide +kernel)) rfl
set_option maxRecDepth 100000 in
theorem mi_X9_next : MI yX9_next cX9_next 4 (some .int) 2 := ⟨gm (List.mem_of_getElem? (i := 1031) rfl) rfl, gm (List.mem_of_getElem? (i := 112) (by decide +kernel)) rfl, by decide, by decide, by decide +kernel⟩
set_option maxRecDepth 100000 in
theorem in_X9_next : Cond.instanceMethod yX9_next ∈ gw := gm (List.mem_of_getElem? (i := 1029) (by decide +kernel)) rfl
set_option maxRecDepth 100000 in
theorem se_X9_next : Cond.selects yX9_next.cls yX9_next yX9_next ∈ gw := gm (List.mem_of_getElem? (i := 1030) (by decide +kernel)) rfl
set_option maxRecDepth 100000 in
theorem wm_L_84 : Cond.methodLink RL 84 yX10_next ∈ gw := gm (List.mem_of_getElem? (i := 1734) (by decide +kernel)) rfl
set_option maxRecDepth 100000 in
theorem mi_X10_next : MI yX10_next cX10_next 9 (some .int) 2 := ⟨gm (List.mem_of_getElem? (i := 1737) rfl) rfl, gm (List.mem_of_getElem? (i := 124) (by decide +kernel)) rfl, by decide, by decide, by decide +kernel⟩
set_option maxRecDepth 100000 in
theorem in_X10_next : Cond.instanceMethod yX10_next ∈ gw := gm (List.mem_of_getElem? (i := 1735) (by decide +kernel)) rfl
set_option maxRecDepth 100000 in
theorem se_X10_next : Cond.selects yX10_next.cls yX10_next yX10_next ∈ gw := gm (List.mem_of_getElem? (i := 1736) (by decide +kernel)) rfl
set_option maxHeartbeats 8000000 in
set_option maxRecDepth 100000 in
theorem law_next {p : Program} {l : Launch} {e : Env} {s : State} {m : MethodId} {below : List Frame} {meth : Method} {c : Code} {b L ax am : Nat} {xs : Nat → Int32} {A : Nat → Prop} {G : va_G} {cI cJ cB cZ : ClassId} (hC : CallFix p m c code 4 s #[Value.ref b] gw R_law) (hr : meth.sig.returnType = ret) (hlk : meth.locks = false) (hN : NW s) (hZ : SW A s s.heap) (hK : va_K G cl (TY cI cJ cB cZ) s) (hX : va_X b L xs s s.heap) (hbl : b < s.heap.size) (hA : ∀ q, s.heap.size ≤ q → A q) (hbA : ¬ A b) (hfo : ∀ q, A q → s.heap.size ≤ q) {n : Nat} (ih : LI p l e s m below meth c b L A G cI cJ cB cZ ax am n) (g : Nat) (tm : Int) (wx wm : va_W) (i : Int32) (H : Heap) (locs : List Loc) (ls : Array Slot) (hXI : XI cI cJ cB cZ ax tm g wx) (hMJ : MJ cI cJ cB cZ am tm wm) (hi0 : 0 ≤ i.toInt) (hiL : i.toInt ≤ (L : Int) + 6) (hL : L ≤ 3072) (hm : (L : Int) + 6 - i.toInt < (n : Int) + 1) (hi6 : i.toInt + 6 ≤ (L : Int)) (hP : va_P G cl (wx ++ wm) H) (hD : va_D A (wx ++ wm)) (hS : va_S A s.heap H locs) (hl : lv_has ls 4 [(3, .int i), (2, .ref am), (1, .ref ax), (0, .ref b)]) : W p l e room_1 s m #[Value.ref b] below meth c H locs (1000 + g) (1000000 + fs g) (lw_Z below #[Value.ref b] s) (F0 m 685 ls []) := by
  obtain ⟨hx, hb, hml, hown, hts⟩ := id hC
  refine lv_aload_n hx hb dL_law_685 rfl (lv_at hl 2 rfl) ?_
  refine lv_aload_n hx hb dL_law_686 rfl (lv_at hl 3 rfl) ?_
  refine lv_iload_n hx hb dL_law_687 rfl (lv_at hl 0 rfl) ?_
  refine lv_iconst (v := 1) hx hb dL_law_688 (by decide) ?_
  refine lv_iadd hx hb dL_law_689 ?_
  refine t_i (fun q => q.toInt = i.toInt + 1) (add_i (by show (-2147483648 : Int) ≤ i.toInt + 1; omega) (by show i.toInt + 1 ≤ (2147483647 : Int); omega)) (fun z1 tz1 => ?_)
  refine va_sld hx hb hX hbl hbA hS (i := z1) (vp_in_iff.mpr ⟨by omega, by omega⟩) dL_law_690 ?_
  refine t_i (fun q => ∀ k : Int, (z1 : Int32).toInt = k → q.toInt = gI xs k) (fun _ hk => gI_of hk) (fun z2 sx_690 => ?_)
  refine lv_aload_n hx hb dL_law_691 rfl (lv_at hl 3 rfl) ?_
  refine lv_iload_n hx hb dL_law_692 rfl (lv_at hl 0 rfl) ?_
  refine lv_iconst (v := 2) hx hb dL_law_693 (by decide) ?_
  refine lv_iadd hx hb dL_law_694 ?_
  refine t_i (fun q => q.toInt = i.toInt + 2) (add_i (by show (-2147483648 : Int) ≤ i.toInt + 2; omega) (by show i.toInt + 2 ≤ (2147483647 : Int); omega)) (fun z3 tz3 => ?_)
  refine va_sld hx hb hX hbl hbA hS (i := z3) (vp_in_iff.mpr ⟨by omega, by omega⟩) dL_law_695 ?_
  refine t_i (fun q => ∀ k : Int, (z3 : Int32).toInt = k → q.toInt = gI xs k) (fun _ hk => gI_of hk) (fun z4 sx_695 => ?_)
  refine W.know (fun hgr => ?_)
  refine k_LG hC hN hZ hS hA hK hP hD (xw_next l G cI cJ cB cZ hXI z2 z4) mi_X9_next in_X9_next se_X9_next wm_L_81 9 rfl rfl (hXI.rc) hl.1 rfl rfl (Nat.le_of_ble_eq_true rfl) ⟨(Nat.le_of_ble_eq_true rfl), (Nat.le_of_ble_eq_true rfl)⟩ dL_law_696 (gr_wG hXI.g11) (fun r5 u5 H locs hp hP hD hS hgn => ?_)
  obtain ⟨g5, w5⟩ := u5
  obtain ⟨hXI5, hgg⟩ := hp
  have hXI5 : XI cI cJ cB cZ ax tm g5 w5 := hXI5
  have hgg : g ≤ g5 := hgg
  refine W.tight (k := 1000 + g5) (n := 1000000 + fs g5) (GR.tr4 hgr hgn hgg) ?_
  have hP : va_P G cl (wm ++ w5) H := hP
  have hD : va_D A (wm ++ w5) := hD
  refine lv_pop hx hb dL_law_699 rfl ?_
  refine lv_aload_n hx hb dL_law_700 rfl (lv_at hl 1 rfl) ?_
  refine lv_aload_n hx hb dL_law_701 rfl (lv_at hl 3 rfl) ?_
  refine lv_iload_n hx hb dL_law_702 rfl (lv_at hl 0 rfl) ?_
  refine lv_iconst (v := 1) hx hb dL_law_703 (by decide) ?_
  refine lv_iadd hx hb dL_law_704 ?_
  refine t_i (fun q => q.toInt = i.toInt + 1) (add_i (by show (-2147483648 : Int) ≤ i.toInt + 1; omega) (by show i.toInt + 1 ≤ (2147483647 : Int); omega)) (fun z6 tz6 => ?_)
  refine va_sld hx hb hX hbl hbA hS (i := z6) (vp_in_iff.mpr ⟨by omega, by omega⟩) dL_law_705 ?_
  refine t_i (fun q => ∀ k : Int, (z6 : Int32).toInt = k → q.toInt = gI xs k) (fun _ hk => gI_of hk) (fun z7 sx_705 => ?_)
  refine lv_aload_n hx hb dL_law_706 rfl (lv_at hl 3 rfl) ?_
  refine lv_iload_n hx hb dL_law_707 rfl (lv_at hl 0 rfl) ?_
  refine lv_iconst (v := 2) hx hb dL_law_708 (by decide) ?_
  refine lv_iadd hx hb dL_law_709 ?_
  refine t_i (fun q => q.toInt = i.toInt + 2) (add_i (by show (-2147483648 : Int) ≤ i.toInt + 2; omega) (by show i.toInt + 2 ≤ (2147483647 : Int); omega)) (fun z8 tz8 => ?_)
  refine va_sld hx hb hX hbl hbA hS (i := z8) (vp_in_iff.mpr ⟨by omega, by omega⟩) dL_law_710 ?_
  refine t_i (fun q => ∀ k : Int, (z8 : Int32).toInt = k → q.toInt = gI xs k) (fun _ hk => gI_of hk) (fun z9 sx_710 => ?_)
  refine k_L hC hN hZ hS hA hK hP hD (mw_next l G cI cJ cB cZ hMJ z7 z9) mi_X10_next in_X10_next se_X10_next wm_L_84 10 rfl rfl (hMJ.rc) hl.1 rfl rfl (Nat.le_of_ble_eq_true rfl) ⟨(Nat.le_of_ble_eq_true rfl), (Nat.le_of_ble_eq_true rfl)⟩ dL_law_711 ⟨rfl, rfl⟩ (gr_w0 hXI5.g11) (fun r10 u10 H locs hp hP hD hS => ?_)
  have hMJ10 : MJ cI cJ cB cZ am tm u10 := hp
  have hP : va_P G cl (w5 ++ u10) H := hP
  have hD : va_D A (w5 ++ u10) := hD
  refine lv_pop hx hb dL_law_714 rfl ?_
  refine lv_goto (tgt := 1428) hx hb dL_law_715 (by decide) ?_
  obtain ⟨z11, ez11⟩ : ∃ q : Int32, q = i + Int32.ofInt 6 := ⟨_, rfl⟩
  have tz11 : z11.toInt = i.toInt + 6 := by rw [ez11]; exact add_i (y := 6) (by have p_ := i_lo i; show _ ≤ _ + (6 : Int); omega) (by have q_ := i_hi i; show _ + (6 : Int) ≤ _; omega)
  refine lv_iinc (v := z11) (lv' := [(3, .int z11), (2, .ref am), (1, .ref ax), (0, .ref b)]) hx hb dL_law_1428 hl (k := 0) rfl ez11.symm (by decide) rfl (fun ls hl => ?_)
  refine lv_goto (tgt := 18) hx hb dL_law_1431 (by decide) ?_
  exact ih g5 tm w5 u10 z11 H locs ls hXI5 hMJ10 (by omega) (by omega) (by omega) hP hD hS (lv_sub hl [0, 1, 2, 3] rfl)
set_option maxRecDepth 100000 in
theorem wm_L_85 : Cond.methodLink RL 85 yX9_parts ∈ gw := gm (List.mem_of_getElem? (i := 1071) (by decide +kernel)) rfl
set_option maxRecDepth 100000 in
theorem mi_X9_parts : MI yX9_parts cX9_parts 7 (some .int) 3 := ⟨gm (List.mem_of_getElem? (i := 1074) rfl) rfl, gm (List.mem_of_getElem? (i := 112) (by decide +kernel)) rfl, by decide, by decide, by decide +kernel⟩
set_option maxRecDepth 100000 in
theorem in_X9_parts : Cond.instanceMethod yX9_parts ∈ gw := gm (List.mem_of_getElem? (i := 1072) (by decide +kernel)) rfl
set_option maxRecDepth 100000 in
theorem se_X9_parts : Cond.selects yX9_parts.cls yX9_parts yX9_parts ∈ gw := gm (List.mem_of_getElem? (i := 1073) (by decide +kernel)) rfl
set_option maxRecDepth 100000 in
theorem wm_L_88 : Cond.methodLink RL 88 yX10_parts ∈ gw := gm (List.mem_of_getElem? (i := 1753) (by decide +kernel)) rfl
set_option maxRecDepth 100000 in
theorem mi_X10_parts : MI yX10_parts cX10_parts 5 (some .int) 3 := ⟨gm (List.mem_of_getElem? (i := 1756) rfl) rfl, gm (List.mem_of_getElem? (i := 124) (by decide +kernel)) rfl, by decide, by decide, by decide +kernel⟩
set_option maxRecDepth 100000 in
theorem in_X10_parts : Cond.instanceMethod yX10_parts ∈ gw := gm (List.mem_of_getElem? (i := 1754) (by decide +kernel)) rfl
set_option maxRecDepth 100000 in
theorem se_X10_parts : Cond.selects yX10_parts.cls yX10_parts yX10_parts ∈ gw := gm (List.mem_of_getElem? (i := 1755) (by decide +kernel)) rfl
set_option maxHeartbeats 8000000 in
set_option maxRecDepth 100000 in
theorem law_parts {p : Program} {l : Launch} {e : Env} {s : State} {m : MethodId} {below : List Frame} {meth : Method} {c : Code} {b L ax am : Nat} {xs : Nat → Int32} {A : Nat → Prop} {G : va_G} {cI cJ cB cZ : ClassId} (hC : CallFix p m c code 4 s #[Value.ref b] gw R_law) (hr : meth.sig.returnType = ret) (hlk : meth.locks = false) (hN : NW s) (hZ : SW A s s.heap) (hK : va_K G cl (TY cI cJ cB cZ) s) (hX : va_X b L xs s s.heap) (hbl : b < s.heap.size) (hA : ∀ q, s.heap.size ≤ q → A q) (hbA : ¬ A b) (hfo : ∀ q, A q → s.heap.size ≤ q) {n : Nat} (ih : LI p l e s m below meth c b L A G cI cJ cB cZ ax am n) (g : Nat) (tm : Int) (wx wm : va_W) (i : Int32) (H : Heap) (locs : List Loc) (ls : Array Slot) (hXI : XI cI cJ cB cZ ax tm g wx) (hMJ : MJ cI cJ cB cZ am tm wm) (hi0 : 0 ≤ i.toInt) (hiL : i.toInt ≤ (L : Int) + 6) (hL : L ≤ 3072) (hm : (L : Int) + 6 - i.toInt < (n : Int) + 1) (hi6 : i.toInt + 6 ≤ (L : Int)) (hP : va_P G cl (wx ++ wm) H) (hD : va_D A (wx ++ wm)) (hS : va_S A s.heap H locs) (hl : lv_has ls 4 [(3, .int i), (2, .ref am), (1, .ref ax), (0, .ref b)]) : W p l e room_1 s m #[Value.ref b] below meth c H locs (1000 + g) (1000000 + fs g) (lw_Z below #[Value.ref b] s) (F0 m 718 ls []) := by
  obtain ⟨hx, hb, hml, hown, hts⟩ := id hC
  refine lv_aload_n hx hb dL_law_718 rfl (lv_at hl 2 rfl) ?_
  refine lv_aload_n hx hb dL_law_719 rfl (lv_at hl 3 rfl) ?_
  refine lv_iload_n hx hb dL_law_720 rfl (lv_at hl 0 rfl) ?_
  refine lv_iconst (v := 1) hx hb dL_law_721 (by decide) ?_
  refine lv_iadd hx hb dL_law_722 ?_
  refine t_i (fun q => q.toInt = i.toInt + 1) (add_i (by show (-2147483648 : Int) ≤ i.toInt + 1; omega) (by show i.toInt + 1 ≤ (2147483647 : Int); omega)) (fun z1 tz1 => ?_)
  refine va_sld hx hb hX hbl hbA hS (i := z1) (vp_in_iff.mpr ⟨by omega, by omega⟩) dL_law_723 ?_
  refine t_i (fun q => ∀ k : Int, (z1 : Int32).toInt = k → q.toInt = gI xs k) (fun _ hk => gI_of hk) (fun z2 sx_723 => ?_)
  refine lv_aload_n hx hb dL_law_724 rfl (lv_at hl 3 rfl) ?_
  refine lv_iload_n hx hb dL_law_725 rfl (lv_at hl 0 rfl) ?_
  refine lv_iconst (v := 2) hx hb dL_law_726 (by decide) ?_
  refine lv_iadd hx hb dL_law_727 ?_
  refine t_i (fun q => q.toInt = i.toInt + 2) (add_i (by show (-2147483648 : Int) ≤ i.toInt + 2; omega) (by show i.toInt + 2 ≤ (2147483647 : Int); omega)) (fun z3 tz3 => ?_)
  refine va_sld hx hb hX hbl hbA hS (i := z3) (vp_in_iff.mpr ⟨by omega, by omega⟩) dL_law_728 ?_
  refine t_i (fun q => ∀ k : Int, (z3 : Int32).toInt = k → q.toInt = gI xs k) (fun _ hk => gI_of hk) (fun z4 sx_728 => ?_)
  refine lv_aload_n hx hb dL_law_729 rfl (lv_at hl 3 rfl) ?_
  refine lv_iload_n hx hb dL_law_730 rfl (lv_at hl 0 rfl) ?_
  refine lv_iconst (v := 3) hx hb dL_law_731 (by decide) ?_
  refine lv_iadd hx hb dL_law_732 ?_
  refine t_i (fun q => q.toInt = i.toInt + 3) (add_i (by show (-2147483648 : Int) ≤ i.toInt + 3; omega) (by show i.toInt + 3 ≤ (2147483647 : Int); omega)) (fun z5 tz5 => ?_)
  refine va_sld hx hb hX hbl hbA hS (i := z5) (vp_in_iff.mpr ⟨by omega, by omega⟩) dL_law_733 ?_
  refine t_i (fun q => ∀ k : Int, (z5 : Int32).toInt = k → q.toInt = gI xs k) (fun _ hk => gI_of hk) (fun z6 sx_733 => ?_)
  refine W.know (fun hgr => ?_)
  refine k_LG hC hN hZ hS hA hK hP hD (xw_parts l G cI cJ cB cZ hXI z2 z4 z6) mi_X9_parts in_X9_parts se_X9_parts wm_L_85 9 rfl rfl (hXI.rc) hl.1 rfl rfl (Nat.le_of_ble_eq_true rfl) ⟨(Nat.le_of_ble_eq_true rfl), (Nat.le_of_ble_eq_true rfl)⟩ dL_law_734 (gr_wG hXI.g11) (fun r7 u7 H locs hp hP hD hS hgn => ?_)
  obtain ⟨g7, w7⟩ := u7
  obtain ⟨hXI7, hgg⟩ := hp
  have hXI7 : XI cI cJ cB cZ ax tm g7 w7 := hXI7
  have hgg : g ≤ g7 := hgg
  refine W.tight (k := 1000 + g7) (n := 1000000 + fs g7) (GR.tr4 hgr hgn hgg) ?_
  have hP : va_P G cl (wm ++ w7) H := hP
  have hD : va_D A (wm ++ w7) := hD
  refine lv_pop hx hb dL_law_737 rfl ?_
  refine lv_aload_n hx hb dL_law_738 rfl (lv_at hl 1 rfl) ?_
  refine lv_aload_n hx hb dL_law_739 rfl (lv_at hl 3 rfl) ?_
  refine lv_iload_n hx hb dL_law_740 rfl (lv_at hl 0 rfl) ?_
  refine lv_iconst (v := 1) hx hb dL_law_741 (by decide) ?_
  refine lv_iadd hx hb dL_law_742 ?_
  refine t_i (fun q => q.toInt = i.toInt + 1) (add_i (by show (-2147483648 : Int) ≤ i.toInt + 1; omega) (by show i.toInt + 1 ≤ (2147483647 : Int); omega)) (fun z8 tz8 => ?_)
  refine va_sld hx hb hX hbl hbA hS (i := z8) (vp_in_iff.mpr ⟨by omega, by omega⟩) dL_law_743 ?_
  refine t_i (fun q => ∀ k : Int, (z8 : Int32).toInt = k → q.toInt = gI xs k) (fun _ hk => gI_of hk) (fun z9 sx_743 => ?_)
  refine lv_aload_n hx hb dL_law_744 rfl (lv_at hl 3 rfl) ?_
  refine lv_iload_n hx hb dL_law_745 rfl (lv_at hl 0 rfl) ?_
  refine lv_iconst (v := 2) hx hb dL_law_746 (by decide) ?_
  refine lv_iadd hx hb dL_law_747 ?_
  refine t_i (fun q => q.toInt = i.toInt + 2) (add_i (by show (-2147483648 : Int) ≤ i.toInt + 2; omega) (by show i.toInt + 2 ≤ (2147483647 : Int); omega)) (fun z10 tz10 => ?_)
  refine va_sld hx hb hX hbl hbA hS (i := z10) (vp_in_iff.mpr ⟨by omega, by omega⟩) dL_law_748 ?_
  refine t_i (fun q => ∀ k : Int, (z10 : Int32).toInt = k → q.toInt = gI xs k) (fun _ hk => gI_of hk) (fun z11 sx_748 => ?_)
  refine lv_aload_n hx hb dL_law_749 rfl (lv_at hl 3 rfl) ?_
  refine lv_iload_n hx hb dL_law_750 rfl (lv_at hl 0 rfl) ?_
  refine lv_iconst (v := 3) hx hb dL_law_751 (by decide) ?_
  refine lv_iadd hx hb dL_law_752 ?_
  refine t_i (fun q => q.toInt = i.toInt + 3) (add_i (by show (-2147483648 : Int) ≤ i.toInt + 3; omega) (by show i.toInt + 3 ≤ (2147483647 : Int); omega)) (fun z12 tz12 => ?_)
  refine va_sld hx hb hX hbl hbA hS (i := z12) (vp_in_iff.mpr ⟨by omega, by omega⟩) dL_law_753 ?_
  refine t_i (fun q => ∀ k : Int, (z12 : Int32).toInt = k → q.toInt = gI xs k) (fun _ hk => gI_of hk) (fun z13 sx_753 => ?_)
  refine k_L hC hN hZ hS hA hK hP hD (mw_parts l G cI cJ cB cZ hMJ z9 z11 z13) mi_X10_parts in_X10_parts se_X10_parts wm_L_88 10 rfl rfl (hMJ.rc) hl.1 rfl rfl (Nat.le_of_ble_eq_true rfl) ⟨(Nat.le_of_ble_eq_true rfl), (Nat.le_of_ble_eq_true rfl)⟩ dL_law_754 ⟨rfl, rfl⟩ (gr_w0 hXI7.g11) (fun r14 u14 H locs hp hP hD hS => ?_)
  have hMJ14 : MJ cI cJ cB cZ am tm u14 := hp
  have hP : va_P G cl (w7 ++ u14) H := hP
  have hD : va_D A (w7 ++ u14) := hD
  refine lv_pop hx hb dL_law_757 rfl ?_
  refine lv_goto (tgt := 1428) hx hb dL_law_758 (by decide) ?_
  obtain ⟨z15, ez15⟩ : ∃ q : Int32, q = i + Int32.ofInt 6 := ⟨_, rfl⟩
  have tz15 : z15.toInt = i.toInt + 6 := by rw [ez15]; exact add_i (y := 6) (by have p_ := i_lo i; show _ ≤ _ + (6 : Int); omega) (by have q_ := i_hi i; show _ + (6 : Int) ≤ _; omega)
  refine lv_iinc (v := z15) (lv' := [(3, .int z15), (2, .ref am), (1, .ref ax), (0, .ref b)]) hx hb dL_law_1428 hl (k := 0) rfl ez15.symm (by decide) rfl (fun ls hl => ?_)
  refine lv_goto (tgt := 18) hx hb dL_law_1431 (by decide) ?_
  exact ih g7 tm w7 u14 z15 H locs ls hXI7 hMJ14 (by omega) (by omega) (by omega) hP hD hS (lv_sub hl [0, 1, 2, 3] rfl)
set_option maxRecDepth 100000 in
theorem wm_L_89 : Cond.methodLink RL 89 yX9_clear ∈ gw := gm (List.mem_of_getElem? (i := 1087) (by decide +kernel)) rfl
set_option maxRecDepth 100000 in
theorem mi_X9_clear : MI yX9_clear cX9_clear 5 (some .int) 3 := ⟨gm (List.mem_of_getElem? (i := 1090) rfl) rfl, gm (List.mem_of_getElem? (i := 112) (by decide +kernel)) rfl, by decide, by decide, by decide +kernel⟩
set_option maxRecDepth 100000 in
theorem in_X9_clear : Cond.instanceMethod yX9_clear ∈ gw := gm (List.mem_of_getElem? (i := 1088) (by decide +kernel)) rfl
set_option maxRecDepth 100000 in
theorem se_X9_clear : Cond.selects yX9_clear.cls yX9_clear yX9_clear ∈ gw := gm (List.mem_of_getElem? (i := 1089) (by decide +kernel)) rfl
set_option maxRecDepth 100000 in
theorem wm_L_92 : Cond.methodLink RL 92 yX10_clear ∈ gw := gm (List.mem_of_getElem? (i := 1757) (by decide +kernel)) rfl
set_option maxRecDepth 100000 in
theorem mi_X10_clear : MI yX10_clear cX10_clear 6 (some .int) 3 := ⟨gm (List.mem_of_getElem? (i := 1760) rfl) rfl, gm (List.mem_of_getElem? (i := 124) (by decide +kernel)) rfl, by decide, by decide, by decide +kernel⟩
set_option maxRecDepth 100000 in
theorem in_X10_clear : Cond.instanceMethod yX10_clear ∈ gw := gm (List.mem_of_getElem? (i := 1758) (by decide +kernel)) rfl
set_option maxRecDepth 100000 in
theorem se_X10_clear : Cond.selects yX10_clear.cls yX10_clear yX10_clear ∈ gw := gm (List.mem_of_getElem? (i := 1759) (by decide +kernel)) rfl
set_option maxHeartbeats 8000000 in
set_option maxRecDepth 100000 in
theorem law_clear {p : Program} {l : Launch} {e : Env} {s : State} {m : MethodId} {below : List Frame} {meth : Method} {c : Code} {b L ax am : Nat} {xs : Nat → Int32} {A : Nat → Prop} {G : va_G} {cI cJ cB cZ : ClassId} (hC : CallFix p m c code 4 s #[Value.ref b] gw R_law) (hr : meth.sig.returnType = ret) (hlk : meth.locks = false) (hN : NW s) (hZ : SW A s s.heap) (hK : va_K G cl (TY cI cJ cB cZ) s) (hX : va_X b L xs s s.heap) (hbl : b < s.heap.size) (hA : ∀ q, s.heap.size ≤ q → A q) (hbA : ¬ A b) (hfo : ∀ q, A q → s.heap.size ≤ q) {n : Nat} (ih : LI p l e s m below meth c b L A G cI cJ cB cZ ax am n) (g : Nat) (tm : Int) (wx wm : va_W) (i : Int32) (H : Heap) (locs : List Loc) (ls : Array Slot) (hXI : XI cI cJ cB cZ ax tm g wx) (hMJ : MJ cI cJ cB cZ am tm wm) (hi0 : 0 ≤ i.toInt) (hiL : i.toInt ≤ (L : Int) + 6) (hL : L ≤ 3072) (hm : (L : Int) + 6 - i.toInt < (n : Int) + 1) (hi6 : i.toInt + 6 ≤ (L : Int)) (hP : va_P G cl (wx ++ wm) H) (hD : va_D A (wx ++ wm)) (hS : va_S A s.heap H locs) (hl : lv_has ls 4 [(3, .int i), (2, .ref am), (1, .ref ax), (0, .ref b)]) : W p l e room_1 s m #[Value.ref b] below meth c H locs (1000 + g) (1000000 + fs g) (lw_Z below #[Value.ref b] s) (F0 m 761 ls []) := by
  obtain ⟨hx, hb, hml, hown, hts⟩ := id hC
  refine lv_aload_n hx hb dL_law_761 rfl (lv_at hl 2 rfl) ?_
  refine lv_aload_n hx hb dL_law_762 rfl (lv_at hl 3 rfl) ?_
  refine lv_iload_n hx hb dL_law_763 rfl (lv_at hl 0 rfl) ?_
  refine lv_iconst (v := 1) hx hb dL_law_764 (by decide) ?_
  refine lv_iadd hx hb dL_law_765 ?_
  refine t_i (fun q => q.toInt = i.toInt + 1) (add_i (by show (-2147483648 : Int) ≤ i.toInt + 1; omega) (by show i.toInt + 1 ≤ (2147483647 : Int); omega)) (fun z1 tz1 => ?_)
  refine va_sld hx hb hX hbl hbA hS (i := z1) (vp_in_iff.mpr ⟨by omega, by omega⟩) dL_law_766 ?_
  refine t_i (fun q => ∀ k : Int, (z1 : Int32).toInt = k → q.toInt = gI xs k) (fun _ hk => gI_of hk) (fun z2 sx_766 => ?_)
  refine lv_aload_n hx hb dL_law_767 rfl (lv_at hl 3 rfl) ?_
  refine lv_iload_n hx hb dL_law_768 rfl (lv_at hl 0 rfl) ?_
  refine lv_iconst (v := 2) hx hb dL_law_769 (by decide) ?_
  refine lv_iadd hx hb dL_law_770 ?_
  refine t_i (fun q => q.toInt = i.toInt + 2) (add_i (by show (-2147483648 : Int) ≤ i.toInt + 2; omega) (by show i.toInt + 2 ≤ (2147483647 : Int); omega)) (fun z3 tz3 => ?_)
  refine va_sld hx hb hX hbl hbA hS (i := z3) (vp_in_iff.mpr ⟨by omega, by omega⟩) dL_law_771 ?_
  refine t_i (fun q => ∀ k : Int, (z3 : Int32).toInt = k → q.toInt = gI xs k) (fun _ hk => gI_of hk) (fun z4 sx_771 => ?_)
  refine lv_aload_n hx hb dL_law_772 rfl (lv_at hl 3 rfl) ?_
  refine lv_iload_n hx hb dL_law_773 rfl (lv_at hl 0 rfl) ?_
  refine lv_iconst (v := 3) hx hb dL_law_774 (by decide) ?_
  refine lv_iadd hx hb dL_law_775 ?_
  refine t_i (fun q => q.toInt = i.toInt + 3) (add_i (by show (-2147483648 : Int) ≤ i.toInt + 3; omega) (by show i.toInt + 3 ≤ (2147483647 : Int); omega)) (fun z5 tz5 => ?_)
  refine va_sld hx hb hX hbl hbA hS (i := z5) (vp_in_iff.mpr ⟨by omega, by omega⟩) dL_law_776 ?_
  refine t_i (fun q => ∀ k : Int, (z5 : Int32).toInt = k → q.toInt = gI xs k) (fun _ hk => gI_of hk) (fun z6 sx_776 => ?_)
  refine W.know (fun hgr => ?_)
  refine k_LG hC hN hZ hS hA hK hP hD (xw_clear l G cI cJ cB cZ hXI z2 z4 z6) mi_X9_clear in_X9_clear se_X9_clear wm_L_89 9 rfl rfl (hXI.rc) hl.1 rfl rfl (Nat.le_of_ble_eq_true rfl) ⟨(Nat.le_of_ble_eq_true rfl), (Nat.le_of_ble_eq_true rfl)⟩ dL_law_777 (gr_wG hXI.g11) (fun r7 u7 H locs hp hP hD hS hgn => ?_)
  obtain ⟨g7, w7⟩ := u7
  obtain ⟨hXI7, hgg⟩ := hp
  have hXI7 : XI cI cJ cB cZ ax tm g7 w7 := hXI7
  have hgg : g ≤ g7 := hgg
  refine W.tight (k := 1000 + g7) (n := 1000000 + fs g7) (GR.tr4 hgr hgn hgg) ?_
  have hP : va_P G cl (wm ++ w7) H := hP
  have hD : va_D A (wm ++ w7) := hD
  refine lv_pop hx hb dL_law_780 rfl ?_
  refine lv_aload_n hx hb dL_law_781 rfl (lv_at hl 1 rfl) ?_
  refine lv_aload_n hx hb dL_law_782 rfl (lv_at hl 3 rfl) ?_
  refine lv_iload_n hx hb dL_law_783 rfl (lv_at hl 0 rfl) ?_
  refine lv_iconst (v := 1) hx hb dL_law_784 (by decide) ?_
  refine lv_iadd hx hb dL_law_785 ?_
  refine t_i (fun q => q.toInt = i.toInt + 1) (add_i (by show (-2147483648 : Int) ≤ i.toInt + 1; omega) (by show i.toInt + 1 ≤ (2147483647 : Int); omega)) (fun z8 tz8 => ?_)
  refine va_sld hx hb hX hbl hbA hS (i := z8) (vp_in_iff.mpr ⟨by omega, by omega⟩) dL_law_786 ?_
  refine t_i (fun q => ∀ k : Int, (z8 : Int32).toInt = k → q.toInt = gI xs k) (fun _ hk => gI_of hk) (fun z9 sx_786 => ?_)
  refine lv_aload_n hx hb dL_law_787 rfl (lv_at hl 3 rfl) ?_
  refine lv_iload_n hx hb dL_law_788 rfl (lv_at hl 0 rfl) ?_
  refine lv_iconst (v := 2) hx hb dL_law_789 (by decide) ?_
  refine lv_iadd hx hb dL_law_790 ?_
  refine t_i (fun q => q.toInt = i.toInt + 2) (add_i (by show (-2147483648 : Int) ≤ i.toInt + 2; omega) (by show i.toInt + 2 ≤ (2147483647 : Int); omega)) (fun z10 tz10 => ?_)
  refine va_sld hx hb hX hbl hbA hS (i := z10) (vp_in_iff.mpr ⟨by omega, by omega⟩) dL_law_791 ?_
  refine t_i (fun q => ∀ k : Int, (z10 : Int32).toInt = k → q.toInt = gI xs k) (fun _ hk => gI_of hk) (fun z11 sx_791 => ?_)
  refine lv_aload_n hx hb dL_law_792 rfl (lv_at hl 3 rfl) ?_
  refine lv_iload_n hx hb dL_law_793 rfl (lv_at hl 0 rfl) ?_
  refine lv_iconst (v := 3) hx hb dL_law_794 (by decide) ?_
  refine lv_iadd hx hb dL_law_795 ?_
  refine t_i (fun q => q.toInt = i.toInt + 3) (add_i (by show (-2147483648 : Int) ≤ i.toInt + 3; omega) (by show i.toInt + 3 ≤ (2147483647 : Int); omega)) (fun z12 tz12 => ?_)
  refine va_sld hx hb hX hbl hbA hS (i := z12) (vp_in_iff.mpr ⟨by omega, by omega⟩) dL_law_796 ?_
  refine t_i (fun q => ∀ k : Int, (z12 : Int32).toInt = k → q.toInt = gI xs k) (fun _ hk => gI_of hk) (fun z13 sx_796 => ?_)
  refine k_L hC hN hZ hS hA hK hP hD (mw_clear l G cI cJ cB cZ hMJ z9 z11 z13) mi_X10_clear in_X10_clear se_X10_clear wm_L_92 10 rfl rfl (hMJ.rc) hl.1 rfl rfl (Nat.le_of_ble_eq_true rfl) ⟨(Nat.le_of_ble_eq_true rfl), (Nat.le_of_ble_eq_true rfl)⟩ dL_law_797 ⟨rfl, rfl⟩ (gr_w0 hXI7.g11) (fun r14 u14 H locs hp hP hD hS => ?_)
  have hMJ14 : MJ cI cJ cB cZ am tm u14 := hp
  have hP : va_P G cl (w7 ++ u14) H := hP
  have hD : va_D A (w7 ++ u14) := hD
  refine lv_pop hx hb dL_law_800 rfl ?_
  refine lv_goto (tgt := 1428) hx hb dL_law_801 (by decide) ?_
  obtain ⟨z15, ez15⟩ : ∃ q : Int32, q = i + Int32.ofInt 6 := ⟨_, rfl⟩
  have tz15 : z15.toInt = i.toInt + 6 := by rw [ez15]; exact add_i (y := 6) (by have p_ := i_lo i; show _ ≤ _ + (6 : Int); omega) (by have q_ := i_hi i; show _ + (6 : Int) ≤ _; omega)
  refine lv_iinc (v := z15) (lv' := [(3, .int z15), (2, .ref am), (1, .ref ax), (0, .ref b)]) hx hb dL_law_1428 hl (k := 0) rfl ez15.symm (by decide) rfl (fun ls hl => ?_)
  refine lv_goto (tgt := 18) hx hb dL_law_1431 (by decide) ?_
  exact ih g7 tm w7 u14 z15 H locs ls hXI7 hMJ14 (by omega) (by omega) (by omega) hP hD hS (lv_sub hl [0, 1, 2, 3] rfl)
set_option maxRecDepth 100000 in
theorem wm_L_93 : Cond.methodLink RL 93 yX9_arm ∈ gw := gm (List.mem_of_getElem? (i := 1139) (by decide +kernel)) rfl
set_option maxRecDepth 100000 in
theorem mi_X9_arm : MI yX9_arm cX9_arm 5 (some .int) 1 := ⟨gm (List.mem_of_getElem? (i := 1142) rfl) rfl, gm (List.mem_of_getElem? (i := 112) (by decide +kernel)) rfl, by decide, by decide, by decide +kernel⟩
set_option maxRecDepth 100000 in
theorem in_X9_arm : Cond.instanceMethod yX9_arm ∈ gw := gm (List.mem_of_getElem? (i := 1140) (by decide +kernel)) rfl
set_option maxRecDepth 100000 in
theorem se_X9_arm : Cond.selects yX9_arm.cls yX9_arm yX9_arm ∈ gw := gm (List.mem_of_getElem? (i := 1141) (by decide +kernel)) rfl
set_option maxRecDepth 100000 in
theorem wm_L_96 : Cond.methodLink RL 96 yX10_arm ∈ gw := gm (List.mem_of_getElem? (i := 1789) (by decide +kernel)) rfl
set_option maxRecDepth 100000 in
theorem mi_X10_arm : MI yX10_arm cX10_arm 3 (some .int) 1 := ⟨gm (List.mem_of_getElem? (i := 1792) rfl) rfl, gm (List.mem_of_getElem? (i := 124) (by decide +kernel)) rfl, by decide, by decide, by decide +kernel⟩
set_option maxRecDepth 100000 in
theorem in_X10_arm : Cond.instanceMethod yX10_arm ∈ gw := gm (List.mem_of_getElem? (i := 1790) (by decide +kernel)) rfl
set_option maxRecDepth 100000 in
theorem se_X10_arm : Cond.selects yX10_arm.cls yX10_arm yX10_arm ∈ gw := gm (List.mem_of_getElem? (i := 1791) (by decide +kernel)) rfl
set_option maxHeartbeats 8000000 in
set_option maxRecDepth 100000 in
theorem law_arm {p : Program} {l : Launch} {e : Env} {s : State} {m : MethodId} {below : List Frame} {meth : Method} {c : Code} {b L ax am : Nat} {xs : Nat → Int32} {A : Nat → Prop} {G : va_G} {cI cJ cB cZ : ClassId} (hC : CallFix p m c code 4 s #[Value.ref b] gw R_law) (hr : meth.sig.returnType = ret) (hlk : meth.locks = false) (hN : NW s) (hZ : SW A s s.heap) (hK : va_K G cl (TY cI cJ cB cZ) s) (hX : va_X b L xs s s.heap) (hbl : b < s.heap.size) (hA : ∀ q, s.heap.size ≤ q → A q) (hbA : ¬ A b) (hfo : ∀ q, A q → s.heap.size ≤ q) {n : Nat} (ih : LI p l e s m below meth c b L A G cI cJ cB cZ ax am n) (g : Nat) (tm : Int) (wx wm : va_W) (i : Int32) (H : Heap) (locs : List Loc) (ls : Array Slot) (hXI : XI cI cJ cB cZ ax tm g wx) (hMJ : MJ cI cJ cB cZ am tm wm) (hi0 : 0 ≤ i.toInt) (hiL : i.toInt ≤ (L : Int) + 6) (hL : L ≤ 3072) (hm : (L : Int) + 6 - i.toInt < (n : Int) + 1) (hi6 : i.toInt + 6 ≤ (L : Int)) (hP : va_P G cl (wx ++ wm) H) (hD : va_D A (wx ++ wm)) (hS : va_S A s.heap H locs) (hl : lv_has ls 4 [(3, .int i), (2, .ref am), (1, .ref ax), (0, .ref b)]) : W p l e room_1 s m #[Value.ref b] below meth c H locs (1000 + g) (1000000 + fs g) (lw_Z below #[Value.ref b] s) (F0 m 804 ls []) := by
  obtain ⟨hx, hb, hml, hown, hts⟩ := id hC
  refine lv_aload_n hx hb dL_law_804 rfl (lv_at hl 2 rfl) ?_
  refine lv_aload_n hx hb dL_law_805 rfl (lv_at hl 3 rfl) ?_
  refine lv_iload_n hx hb dL_law_806 rfl (lv_at hl 0 rfl) ?_
  refine lv_iconst (v := 1) hx hb dL_law_807 (by decide) ?_
  refine lv_iadd hx hb dL_law_808 ?_
  refine t_i (fun q => q.toInt = i.toInt + 1) (add_i (by show (-2147483648 : Int) ≤ i.toInt + 1; omega) (by show i.toInt + 1 ≤ (2147483647 : Int); omega)) (fun z1 tz1 => ?_)
  refine va_sld hx hb hX hbl hbA hS (i := z1) (vp_in_iff.mpr ⟨by omega, by omega⟩) dL_law_809 ?_
  refine t_i (fun q => ∀ k : Int, (z1 : Int32).toInt = k → q.toInt = gI xs k) (fun _ hk => gI_of hk) (fun z2 sx_809 => ?_)
  refine W.know (fun hgr => ?_)
  refine k_LG hC hN hZ hS hA hK hP hD (xw_arm l G cI cJ cB cZ hXI z2) mi_X9_arm in_X9_arm se_X9_arm wm_L_93 9 rfl rfl (hXI.rc) hl.1 rfl rfl (Nat.le_of_ble_eq_true rfl) ⟨(Nat.le_of_ble_eq_true rfl), (Nat.le_of_ble_eq_true rfl)⟩ dL_law_810 (gr_wG hXI.g11) (fun r3 u3 H locs hp hP hD hS hgn => ?_)
  obtain ⟨g3, w3⟩ := u3
  obtain ⟨hXI3, hgg⟩ := hp
  have hXI3 : XI cI cJ cB cZ ax tm g3 w3 := hXI3
  have hgg : g ≤ g3 := hgg
  refine W.tight (k := 1000 + g3) (n := 1000000 + fs g3) (GR.tr4 hgr hgn hgg) ?_
  have hP : va_P G cl (wm ++ w3) H := hP
  have hD : va_D A (wm ++ w3) := hD
  refine lv_pop hx hb dL_law_813 rfl ?_
  refine lv_aload_n hx hb dL_law_814 rfl (lv_at hl 1 rfl) ?_
  refine lv_aload_n hx hb dL_law_815 rfl (lv_at hl 3 rfl) ?_
  refine lv_iload_n hx hb dL_law_816 rfl (lv_at hl 0 rfl) ?_
  refine lv_iconst (v := 1) hx hb dL_law_817 (by decide) ?_
  refine lv_iadd hx hb dL_law_818 ?_
  refine t_i (fun q => q.toInt = i.toInt + 1) (add_i (by show (-2147483648 : Int) ≤ i.toInt + 1; omega) (by show i.toInt + 1 ≤ (2147483647 : Int); omega)) (fun z4 tz4 => ?_)
  refine va_sld hx hb hX hbl hbA hS (i := z4) (vp_in_iff.mpr ⟨by omega, by omega⟩) dL_law_819 ?_
  refine t_i (fun q => ∀ k : Int, (z4 : Int32).toInt = k → q.toInt = gI xs k) (fun _ hk => gI_of hk) (fun z5 sx_819 => ?_)
  refine k_L hC hN hZ hS hA hK hP hD (mw_arm l G cI cJ cB cZ hMJ z5) mi_X10_arm in_X10_arm se_X10_arm wm_L_96 10 rfl rfl (hMJ.rc) hl.1 rfl rfl (Nat.le_of_ble_eq_true rfl) ⟨(Nat.le_of_ble_eq_true rfl), (Nat.le_of_ble_eq_true rfl)⟩ dL_law_820 ⟨rfl, rfl⟩ (gr_w0 hXI3.g11) (fun r6 u6 H locs hp hP hD hS => ?_)
  have hMJ6 : MJ cI cJ cB cZ am tm u6 := hp
  have hP : va_P G cl (w3 ++ u6) H := hP
  have hD : va_D A (w3 ++ u6) := hD
  refine lv_pop hx hb dL_law_823 rfl ?_
  refine lv_goto (tgt := 1428) hx hb dL_law_824 (by decide) ?_
  obtain ⟨z7, ez7⟩ : ∃ q : Int32, q = i + Int32.ofInt 6 := ⟨_, rfl⟩
  have tz7 : z7.toInt = i.toInt + 6 := by rw [ez7]; exact add_i (y := 6) (by have p_ := i_lo i; show _ ≤ _ + (6 : Int); omega) (by have q_ := i_hi i; show _ + (6 : Int) ≤ _; omega)
  refine lv_iinc (v := z7) (lv' := [(3, .int z7), (2, .ref am), (1, .ref ax), (0, .ref b)]) hx hb dL_law_1428 hl (k := 0) rfl ez7.symm (by decide) rfl (fun ls hl => ?_)
  refine lv_goto (tgt := 18) hx hb dL_law_1431 (by decide) ?_
  exact ih g3 tm w3 u6 z7 H locs ls hXI3 hMJ6 (by omega) (by omega) (by omega) hP hD hS (lv_sub hl [0, 1, 2, 3] rfl)
set_option maxRecDepth 100000 in
theorem wm_L_97 : Cond.methodLink RL 97 yX9_swap ∈ gw := gm (List.mem_of_getElem? (i := 1144) (by decide +kernel)) rfl
set_option maxRecDepth 100000 in
theorem mi_X9_swap : MI yX9_swap cX9_swap 9 (some .int) 3 := ⟨gm (List.mem_of_getElem? (i := 1147) rfl) rfl, gm (List.mem_of_getElem? (i := 112) (by decide +kernel)) rfl, by decide, by decide, by decide +kernel⟩
set_option maxRecDepth 100000 in
theorem in_X9_swap : Cond.instanceMethod yX9_swap ∈ gw := gm (List.mem_of_getElem? (i := 1145) (by decide +kernel)) rfl
set_option maxRecDepth 100000 in
theorem se_X9_swap : Cond.selects yX9_swap.cls yX9_swap yX9_swap ∈ gw := gm (List.mem_of_getElem? (i := 1146) (by decide +kernel)) rfl
set_option maxRecDepth 100000 in
theorem wm_L_100 : Cond.methodLink RL 100 yX10_swap ∈ gw := gm (List.mem_of_getElem? (i := 1794) (by decide +kernel)) rfl
set_option maxRecDepth 100000 in
theorem mi_X10_swap : MI yX10_swap cX10_swap 6 (some .int) 3 := ⟨gm (List.mem_of_getElem? (i := 1797) rfl) rfl, gm (List.mem_of_getElem? (i := 124) (by decide +kernel)) rfl, by decide, by decide, by decide +kernel⟩
set_option maxRecDepth 100000 in
theorem in_X10_swap : Cond.instanceMethod yX10_swap ∈ gw := gm (List.mem_of_getElem? (i := 1795) (by decide +kernel)) rfl
set_option maxRecDepth 100000 in
theorem se_X10_swap : Cond.selects yX10_swap.cls yX10_swap yX10_swap ∈ gw := gm (List.mem_of_getElem? (i := 1796) (by decide +kernel)) rfl
set_option maxHeartbeats 8000000 in
set_option maxRecDepth 100000 in
theorem law_swap {p : Program} {l : Launch} {e : Env} {s : State} {m : MethodId} {below : List Frame} {meth : Method} {c : Code} {b L ax am : Nat} {xs : Nat → Int32} {A : Nat → Prop} {G : va_G} {cI cJ cB cZ : ClassId} (hC : CallFix p m c code 4 s #[Value.ref b] gw R_law) (hr : meth.sig.returnType = ret) (hlk : meth.locks = false) (hN : NW s) (hZ : SW A s s.heap) (hK : va_K G cl (TY cI cJ cB cZ) s) (hX : va_X b L xs s s.heap) (hbl : b < s.heap.size) (hA : ∀ q, s.heap.size ≤ q → A q) (hbA : ¬ A b) (hfo : ∀ q, A q → s.heap.size ≤ q) {n : Nat} (ih : LI p l e s m below meth c b L A G cI cJ cB cZ ax am n) (g : Nat) (tm : Int) (wx wm : va_W) (i : Int32) (H : Heap) (locs : List Loc) (ls : Array Slot) (hXI : XI cI cJ cB cZ ax tm g wx) (hMJ : MJ cI cJ cB cZ am tm wm) (hi0 : 0 ≤ i.toInt) (hiL : i.toInt ≤ (L : Int) + 6) (hL : L ≤ 3072) (hm : (L : Int) + 6 - i.toInt < (n : Int) + 1) (hi6 : i.toInt + 6 ≤ (L : Int)) (hP : va_P G cl (wx ++ wm) H) (hD : va_D A (wx ++ wm)) (hS : va_S A s.heap H locs) (hl : lv_has ls 4 [(3, .int i), (2, .ref am), (1, .ref ax), (0, .ref b)]) : W p l e room_1 s m #[Value.ref b] below meth c H locs (1000 + g) (1000000 + fs g) (lw_Z below #[Value.ref b] s) (F0 m 827 ls []) := by
  obtain ⟨hx, hb, hml, hown, hts⟩ := id hC
  refine lv_aload_n hx hb dL_law_827 rfl (lv_at hl 2 rfl) ?_
  refine lv_aload_n hx hb dL_law_828 rfl (lv_at hl 3 rfl) ?_
  refine lv_iload_n hx hb dL_law_829 rfl (lv_at hl 0 rfl) ?_
  refine lv_iconst (v := 1) hx hb dL_law_830 (by decide) ?_
  refine lv_iadd hx hb dL_law_831 ?_
  refine t_i (fun q => q.toInt = i.toInt + 1) (add_i (by show (-2147483648 : Int) ≤ i.toInt + 1; omega) (by show i.toInt + 1 ≤ (2147483647 : Int); omega)) (fun z1 tz1 => ?_)
  refine va_sld hx hb hX hbl hbA hS (i := z1) (vp_in_iff.mpr ⟨by omega, by omega⟩) dL_law_832 ?_
  refine t_i (fun q => ∀ k : Int, (z1 : Int32).toInt = k → q.toInt = gI xs k) (fun _ hk => gI_of hk) (fun z2 sx_832 => ?_)
  refine lv_aload_n hx hb dL_law_833 rfl (lv_at hl 3 rfl) ?_
  refine lv_iload_n hx hb dL_law_834 rfl (lv_at hl 0 rfl) ?_
  refine lv_iconst (v := 2) hx hb dL_law_835 (by decide) ?_
  refine lv_iadd hx hb dL_law_836 ?_
  refine t_i (fun q => q.toInt = i.toInt + 2) (add_i (by show (-2147483648 : Int) ≤ i.toInt + 2; omega) (by show i.toInt + 2 ≤ (2147483647 : Int); omega)) (fun z3 tz3 => ?_)
  refine va_sld hx hb hX hbl hbA hS (i := z3) (vp_in_iff.mpr ⟨by omega, by omega⟩) dL_law_837 ?_
  refine t_i (fun q => ∀ k : Int, (z3 : Int32).toInt = k → q.toInt = gI xs k) (fun _ hk => gI_of hk) (fun z4 sx_837 => ?_)
  refine lv_aload_n hx hb dL_law_838 rfl (lv_at hl 3 rfl) ?_
  refine lv_iload_n hx hb dL_law_839 rfl (lv_at hl 0 rfl) ?_
  refine lv_iconst (v := 3) hx hb dL_law_840 (by decide) ?_
  refine lv_iadd hx hb dL_law_841 ?_
  refine t_i (fun q => q.toInt = i.toInt + 3) (add_i (by show (-2147483648 : Int) ≤ i.toInt + 3; omega) (by show i.toInt + 3 ≤ (2147483647 : Int); omega)) (fun z5 tz5 => ?_)
  refine va_sld hx hb hX hbl hbA hS (i := z5) (vp_in_iff.mpr ⟨by omega, by omega⟩) dL_law_842 ?_
  refine t_i (fun q => ∀ k : Int, (z5 : Int32).toInt = k → q.toInt = gI xs k) (fun _ hk => gI_of hk) (fun z6 sx_842 => ?_)
  refine W.know (fun hgr => ?_)
  refine k_LG hC hN hZ hS hA hK hP hD (xw_swap l G cI cJ cB cZ hXI z2 z4 z6) mi_X9_swap in_X9_swap se_X9_swap wm_L_97 9 rfl rfl (hXI.rc) hl.1 rfl rfl (Nat.le_of_ble_eq_true rfl) ⟨(Nat.le_of_ble_eq_true rfl), (Nat.le_of_ble_eq_true rfl)⟩ dL_law_843 (gr_wG hXI.g11) (fun r7 u7 H locs hp hP hD hS hgn => ?_)
  obtain ⟨g7, w7⟩ := u7
  obtain ⟨hXI7, hgg⟩ := hp
  have hXI7 : XI cI cJ cB cZ ax tm g7 w7 := hXI7
  have hgg : g ≤ g7 := hgg
  refine W.tight (k := 1000 + g7) (n := 1000000 + fs g7) (GR.tr4 hgr hgn hgg) ?_
  have hP : va_P G cl (wm ++ w7) H := hP
  have hD : va_D A (wm ++ w7) := hD
  refine lv_pop hx hb dL_law_846 rfl ?_
  refine lv_aload_n hx hb dL_law_847 rfl (lv_at hl 1 rfl) ?_
  refine lv_aload_n hx hb dL_law_848 rfl (lv_at hl 3 rfl) ?_
  refine lv_iload_n hx hb dL_law_849 rfl (lv_at hl 0 rfl) ?_
  refine lv_iconst (v := 1) hx hb dL_law_850 (by decide) ?_
  refine lv_iadd hx hb dL_law_851 ?_
  refine t_i (fun q => q.toInt = i.toInt + 1) (add_i (by show (-2147483648 : Int) ≤ i.toInt + 1; omega) (by show i.toInt + 1 ≤ (2147483647 : Int); omega)) (fun z8 tz8 => ?_)
  refine va_sld hx hb hX hbl hbA hS (i := z8) (vp_in_iff.mpr ⟨by omega, by omega⟩) dL_law_852 ?_
  refine t_i (fun q => ∀ k : Int, (z8 : Int32).toInt = k → q.toInt = gI xs k) (fun _ hk => gI_of hk) (fun z9 sx_852 => ?_)
  refine lv_aload_n hx hb dL_law_853 rfl (lv_at hl 3 rfl) ?_
  refine lv_iload_n hx hb dL_law_854 rfl (lv_at hl 0 rfl) ?_
  refine lv_iconst (v := 2) hx hb dL_law_855 (by decide) ?_
  refine lv_iadd hx hb dL_law_856 ?_
  refine t_i (fun q => q.toInt = i.toInt + 2) (add_i (by show (-2147483648 : Int) ≤ i.toInt + 2; omega) (by show i.toInt + 2 ≤ (2147483647 : Int); omega)) (fun z10 tz10 => ?_)
  refine va_sld hx hb hX hbl hbA hS (i := z10) (vp_in_iff.mpr ⟨by omega, by omega⟩) dL_law_857 ?_
  refine t_i (fun q => ∀ k : Int, (z10 : Int32).toInt = k → q.toInt = gI xs k) (fun _ hk => gI_of hk) (fun z11 sx_857 => ?_)
  refine lv_aload_n hx hb dL_law_858 rfl (lv_at hl 3 rfl) ?_
  refine lv_iload_n hx hb dL_law_859 rfl (lv_at hl 0 rfl) ?_
  refine lv_iconst (v := 3) hx hb dL_law_860 (by decide) ?_
  refine lv_iadd hx hb dL_law_861 ?_
  refine t_i (fun q => q.toInt = i.toInt + 3) (add_i (by show (-2147483648 : Int) ≤ i.toInt + 3; omega) (by show i.toInt + 3 ≤ (2147483647 : Int); omega)) (fun z12 tz12 => ?_)
  refine va_sld hx hb hX hbl hbA hS (i := z12) (vp_in_iff.mpr ⟨by omega, by omega⟩) dL_law_862 ?_
  refine t_i (fun q => ∀ k : Int, (z12 : Int32).toInt = k → q.toInt = gI xs k) (fun _ hk => gI_of hk) (fun z13 sx_862 => ?_)
  refine k_L hC hN hZ hS hA hK hP hD (mw_swap l G cI cJ cB cZ hMJ z9 z11 z13) mi_X10_swap in_X10_swap se_X10_swap wm_L_100 10 rfl rfl (hMJ.rc) hl.1 rfl rfl (Nat.le_of_ble_eq_true rfl) ⟨(Nat.le_of_ble_eq_true rfl), (Nat.le_of_ble_eq_true rfl)⟩ dL_law_863 ⟨rfl, rfl⟩ (gr_w0 hXI7.g11) (fun r14 u14 H locs hp hP hD hS => ?_)
  have hMJ14 : MJ cI cJ cB cZ am tm u14 := hp
  have hP : va_P G cl (w7 ++ u14) H := hP
  have hD : va_D A (w7 ++ u14) := hD
  refine lv_pop hx hb dL_law_866 rfl ?_
  refine lv_goto (tgt := 1428) hx hb dL_law_867 (by decide) ?_
  obtain ⟨z15, ez15⟩ : ∃ q : Int32, q = i + Int32.ofInt 6 := ⟨_, rfl⟩
  have tz15 : z15.toInt = i.toInt + 6 := by rw [ez15]; exact add_i (y := 6) (by have p_ := i_lo i; show _ ≤ _ + (6 : Int); omega) (by have q_ := i_hi i; show _ + (6 : Int) ≤ _; omega)
  refine lv_iinc (v := z15) (lv' := [(3, .int z15), (2, .ref am), (1, .ref ax), (0, .ref b)]) hx hb dL_law_1428 hl (k := 0) rfl ez15.symm (by decide) rfl (fun ls hl => ?_)
  refine lv_goto (tgt := 18) hx hb dL_law_1431 (by decide) ?_
  exact ih g7 tm w7 u14 z15 H locs ls hXI7 hMJ14 (by omega) (by omega) (by omega) hP hD hS (lv_sub hl [0, 1, 2, 3] rfl)
set_option maxRecDepth 100000 in
theorem wm_L_101 : Cond.methodLink RL 101 yX9_owed ∈ gw := gm (List.mem_of_getElem? (i := 1148) (by decide +kernel)) rfl
set_option maxRecDepth 100000 in
theorem mi_X9_owed : MI yX9_owed cX9_owed 6 (some .int) 3 := ⟨gm (List.mem_of_getElem? (i := 1151) rfl) rfl, gm (List.mem_of_getElem? (i := 112) (by decide +kernel)) rfl, by decide, by decide, by decide +kernel⟩
set_option maxRecDepth 100000 in
theorem in_X9_owed : Cond.instanceMethod yX9_owed ∈ gw := gm (List.mem_of_getElem? (i := 1149) (by decide +kernel)) rfl
set_option maxRecDepth 100000 in
theorem se_X9_owed : Cond.selects yX9_owed.cls yX9_owed yX9_owed ∈ gw := gm (List.mem_of_getElem? (i := 1150) (by decide +kernel)) rfl
set_option maxRecDepth 100000 in
theorem wm_L_104 : Cond.methodLink RL 104 yX10_owed ∈ gw := gm (List.mem_of_getElem? (i := 1798) (by decide +kernel)) rfl
set_option maxRecDepth 100000 in
theorem mi_X10_owed : MI yX10_owed cX10_owed 5 (some .int) 3 := ⟨gm (List.mem_of_getElem? (i := 1801) rfl) rfl, gm (List.mem_of_getElem? (i := 124) (by decide +kernel)) rfl, by decide, by decide, by decide +kernel⟩
set_option maxRecDepth 100000 in
theorem in_X10_owed : Cond.instanceMethod yX10_owed ∈ gw := gm (List.mem_of_getElem? (i := 1799) (by decide +kernel)) rfl
set_option maxRecDepth 100000 in
theorem se_X10_owed : Cond.selects yX10_owed.cls yX10_owed yX10_owed ∈ gw := gm (List.mem_of_getElem? (i := 1800) (by decide +kernel)) rfl
set_option maxHeartbeats 8000000 in
set_option maxRecDepth 100000 in
theorem law_owed {p : Program} {l : Launch} {e : Env} {s : State} {m : MethodId} {below : List Frame} {meth : Method} {c : Code} {b L ax am : Nat} {xs : Nat → Int32} {A : Nat → Prop} {G : va_G} {cI cJ cB cZ : ClassId} (hC : CallFix p m c code 4 s #[Value.ref b] gw R_law) (hr : meth.sig.returnType = ret) (hlk : meth.locks = false) (hN : NW s) (hZ : SW A s s.heap) (hK : va_K G cl (TY cI cJ cB cZ) s) (hX : va_X b L xs s s.heap) (hbl : b < s.heap.size) (hA : ∀ q, s.heap.size ≤ q → A q) (hbA : ¬ A b) (hfo : ∀ q, A q → s.heap.size ≤ q) {n : Nat} (ih : LI p l e s m below meth c b L A G cI cJ cB cZ ax am n) (g : Nat) (tm : Int) (wx wm : va_W) (i : Int32) (H : Heap) (locs : List Loc) (ls : Array Slot) (hXI : XI cI cJ cB cZ ax tm g wx) (hMJ : MJ cI cJ cB cZ am tm wm) (hi0 : 0 ≤ i.toInt) (hiL : i.toInt ≤ (L : Int) + 6) (hL : L ≤ 3072) (hm : (L : Int) + 6 - i.toInt < (n : Int) + 1) (hi6 : i.toInt + 6 ≤ (L : Int)) (hP : va_P G cl (wx ++ wm) H) (hD : va_D A (wx ++ wm)) (hS : va_S A s.heap H locs) (hl : lv_has ls 4 [(3, .int i), (2, .ref am), (1, .ref ax), (0, .ref b)]) : W p l e room_1 s m #[Value.ref b] below meth c H locs (1000 + g) (1000000 + fs g) (lw_Z below #[Value.ref b] s) (F0 m 870 ls []) := by
  obtain ⟨hx, hb, hml, hown, hts⟩ := id hC
  refine lv_aload_n hx hb dL_law_870 rfl (lv_at hl 2 rfl) ?_
  refine lv_aload_n hx hb dL_law_871 rfl (lv_at hl 3 rfl) ?_
  refine lv_iload_n hx hb dL_law_872 rfl (lv_at hl 0 rfl) ?_
  refine lv_iconst (v := 1) hx hb dL_law_873 (by decide) ?_
  refine lv_iadd hx hb dL_law_874 ?_
  refine t_i (fun q => q.toInt = i.toInt + 1) (add_i (by show (-2147483648 : Int) ≤ i.toInt + 1; omega) (by show i.toInt + 1 ≤ (2147483647 : Int); omega)) (fun z1 tz1 => ?_)
  refine va_sld hx hb hX hbl hbA hS (i := z1) (vp_in_iff.mpr ⟨by omega, by omega⟩) dL_law_875 ?_
  refine t_i (fun q => ∀ k : Int, (z1 : Int32).toInt = k → q.toInt = gI xs k) (fun _ hk => gI_of hk) (fun z2 sx_875 => ?_)
  refine lv_aload_n hx hb dL_law_876 rfl (lv_at hl 3 rfl) ?_
  refine lv_iload_n hx hb dL_law_877 rfl (lv_at hl 0 rfl) ?_
  refine lv_iconst (v := 2) hx hb dL_law_878 (by decide) ?_
  refine lv_iadd hx hb dL_law_879 ?_
  refine t_i (fun q => q.toInt = i.toInt + 2) (add_i (by show (-2147483648 : Int) ≤ i.toInt + 2; omega) (by show i.toInt + 2 ≤ (2147483647 : Int); omega)) (fun z3 tz3 => ?_)
  refine va_sld hx hb hX hbl hbA hS (i := z3) (vp_in_iff.mpr ⟨by omega, by omega⟩) dL_law_880 ?_
  refine t_i (fun q => ∀ k : Int, (z3 : Int32).toInt = k → q.toInt = gI xs k) (fun _ hk => gI_of hk) (fun z4 sx_880 => ?_)
  have JB_889 : ∀ zb5 : Int32, 0 ≤ zb5.toInt ∧ zb5.toInt ≤ 1 → W p l e room_1 s m #[Value.ref b] below meth c H locs (1000 + g) (1000000 + fs g) (lw_Z below #[Value.ref b] s) (F0 m 889 ls [.int zb5, .int z2, .ref ax]) := by
    intro zb5 hzb5
    refine lv_aload_n hx hb dL_law_889 rfl (lv_at hl 3 rfl) ?_
    refine lv_iload_n hx hb dL_law_890 rfl (lv_at hl 0 rfl) ?_
    refine lv_iconst (v := 3) hx hb dL_law_891 (by decide) ?_
    refine lv_iadd hx hb dL_law_892 ?_
    refine t_i (fun q => q.toInt = i.toInt + 3) (add_i (by show (-2147483648 : Int) ≤ i.toInt + 3; omega) (by show i.toInt + 3 ≤ (2147483647 : Int); omega)) (fun z6 tz6 => ?_)
    refine va_sld hx hb hX hbl hbA hS (i := z6) (vp_in_iff.mpr ⟨by omega, by omega⟩) dL_law_893 ?_
    refine t_i (fun q => ∀ k : Int, (z6 : Int32).toInt = k → q.toInt = gI xs k) (fun _ hk => gI_of hk) (fun z7 sx_893 => ?_)
    refine W.know (fun hgr => ?_)
    refine k_LG hC hN hZ hS hA hK hP hD (xw_owed l G cI cJ cB cZ hXI z2 zb5 z7 hzb5) mi_X9_owed in_X9_owed se_X9_owed wm_L_101 9 rfl rfl (hXI.rc) hl.1 rfl rfl (Nat.le_of_ble_eq_true rfl) ⟨(Nat.le_of_ble_eq_true rfl), (Nat.le_of_ble_eq_true rfl)⟩ dL_law_894 (gr_wG hXI.g11) (fun r8 u8 H locs hp hP hD hS hgn => ?_)
    obtain ⟨g8, w8⟩ := u8
    obtain ⟨hXI8, hgg⟩ := hp
    have hXI8 : XI cI cJ cB cZ ax tm g8 w8 := hXI8
    have hgg : g ≤ g8 := hgg
    refine W.tight (k := 1000 + g8) (n := 1000000 + fs g8) (GR.tr4 hgr hgn hgg) ?_
    have hP : va_P G cl (wm ++ w8) H := hP
    have hD : va_D A (wm ++ w8) := hD
    refine lv_pop hx hb dL_law_897 rfl ?_
    refine lv_aload_n hx hb dL_law_898 rfl (lv_at hl 1 rfl) ?_
    refine lv_aload_n hx hb dL_law_899 rfl (lv_at hl 3 rfl) ?_
    refine lv_iload_n hx hb dL_law_900 rfl (lv_at hl 0 rfl) ?_
    refine lv_iconst (v := 1) hx hb dL_law_901 (by decide) ?_
    refine lv_iadd hx hb dL_law_902 ?_
    refine t_i (fun q => q.toInt = i.toInt + 1) (add_i (by show (-2147483648 : Int) ≤ i.toInt + 1; omega) (by show i.toInt + 1 ≤ (2147483647 : Int); omega)) (fun z9 tz9 => ?_)
    refine va_sld hx hb hX hbl hbA hS (i := z9) (vp_in_iff.mpr ⟨by omega, by omega⟩) dL_law_903 ?_
    refine t_i (fun q => ∀ k : Int, (z9 : Int32).toInt = k → q.toInt = gI xs k) (fun _ hk => gI_of hk) (fun z10 sx_903 => ?_)
    refine lv_aload_n hx hb dL_law_904 rfl (lv_at hl 3 rfl) ?_
    refine lv_iload_n hx hb dL_law_905 rfl (lv_at hl 0 rfl) ?_
    refine lv_iconst (v := 2) hx hb dL_law_906 (by decide) ?_
    refine lv_iadd hx hb dL_law_907 ?_
    refine t_i (fun q => q.toInt = i.toInt + 2) (add_i (by show (-2147483648 : Int) ≤ i.toInt + 2; omega) (by show i.toInt + 2 ≤ (2147483647 : Int); omega)) (fun z11 tz11 => ?_)
    refine va_sld hx hb hX hbl hbA hS (i := z11) (vp_in_iff.mpr ⟨by omega, by omega⟩) dL_law_908 ?_
    refine t_i (fun q => ∀ k : Int, (z11 : Int32).toInt = k → q.toInt = gI xs k) (fun _ hk => gI_of hk) (fun z12 sx_908 => ?_)
    have JB_917 : ∀ zb13 : Int32, 0 ≤ zb13.toInt ∧ zb13.toInt ≤ 1 → W p l e room_1 s m #[Value.ref b] below meth c H locs (1000 + g8) (1000000 + fs g8) (lw_Z below #[Value.ref b] s) (F0 m 917 ls [.int zb13, .int z10, .ref am]) := by
      intro zb13 hzb13
      refine lv_aload_n hx hb dL_law_917 rfl (lv_at hl 3 rfl) ?_
      refine lv_iload_n hx hb dL_law_918 rfl (lv_at hl 0 rfl) ?_
      refine lv_iconst (v := 3) hx hb dL_law_919 (by decide) ?_
      refine lv_iadd hx hb dL_law_920 ?_
      refine t_i (fun q => q.toInt = i.toInt + 3) (add_i (by show (-2147483648 : Int) ≤ i.toInt + 3; omega) (by show i.toInt + 3 ≤ (2147483647 : Int); omega)) (fun z14 tz14 => ?_)
      refine va_sld hx hb hX hbl hbA hS (i := z14) (vp_in_iff.mpr ⟨by omega, by omega⟩) dL_law_921 ?_
      refine t_i (fun q => ∀ k : Int, (z14 : Int32).toInt = k → q.toInt = gI xs k) (fun _ hk => gI_of hk) (fun z15 sx_921 => ?_)
      refine k_L hC hN hZ hS hA hK hP hD (mw_owed l G cI cJ cB cZ hMJ z10 zb13 z15 hzb13) mi_X10_owed in_X10_owed se_X10_owed wm_L_104 10 rfl rfl (hMJ.rc) hl.1 rfl rfl (Nat.le_of_ble_eq_true rfl) ⟨(Nat.le_of_ble_eq_true rfl), (Nat.le_of_ble_eq_true rfl)⟩ dL_law_922 ⟨rfl, rfl⟩ (gr_w0 hXI8.g11) (fun r16 u16 H locs hp hP hD hS => ?_)
      have hMJ16 : MJ cI cJ cB cZ am tm u16 := hp
      have hP : va_P G cl (w8 ++ u16) H := hP
      have hD : va_D A (w8 ++ u16) := hD
      refine lv_pop hx hb dL_law_925 rfl ?_
      refine lv_goto (tgt := 1428) hx hb dL_law_926 (by decide) ?_
      obtain ⟨z17, ez17⟩ : ∃ q : Int32, q = i + Int32.ofInt 6 := ⟨_, rfl⟩
      have tz17 : z17.toInt = i.toInt + 6 := by rw [ez17]; exact add_i (y := 6) (by have p_ := i_lo i; show _ ≤ _ + (6 : Int); omega) (by have q_ := i_hi i; show _ + (6 : Int) ≤ _; omega)
      refine lv_iinc (v := z17) (lv' := [(3, .int z17), (2, .ref am), (1, .ref ax), (0, .ref b)]) hx hb dL_law_1428 hl (k := 0) rfl ez17.symm (by decide) rfl (fun ls hl => ?_)
      refine lv_goto (tgt := 18) hx hb dL_law_1431 (by decide) ?_
      exact ih g8 tm w8 u16 z17 H locs ls hXI8 hMJ16 (by omega) (by omega) (by omega) hP hD hS (lv_sub hl [0, 1, 2, 3] rfl)
    refine lv_if_eq (tgt := 916) hx hb dL_law_909 (by decide) (fun _ => ?_) (fun _ => ?_)
    · refine lv_iconst (v := 0) hx hb dL_law_916 (by decide) ?_
      exact JB_917 0 (by decide)
    · refine lv_iconst (v := 1) hx hb dL_law_912 (by decide) ?_
      refine lv_goto (tgt := 917) hx hb dL_law_913 (by decide) ?_
      exact JB_917 1 (by decide)
  refine lv_if_eq (tgt := 888) hx hb dL_law_881 (by decide) (fun _ => ?_) (fun _ => ?_)
  · refine lv_iconst (v := 0) hx hb dL_law_888 (by decide) ?_
    exact JB_889 0 (by decide)
  · refine lv_iconst (v := 1) hx hb dL_law_884 (by decide) ?_
    refine lv_goto (tgt := 889) hx hb dL_law_885 (by decide) ?_
    exact JB_889 1 (by decide)
set_option maxRecDepth 100000 in
theorem wm_L_105 : Cond.methodLink RL 105 yX9_debt ∈ gw := gm (List.mem_of_getElem? (i := 1161) (by decide +kernel)) rfl
set_option maxRecDepth 100000 in
theorem mi_X9_debt : MI yX9_debt cX9_debt 6 (some .int) 3 := ⟨gm (List.mem_of_getElem? (i := 1164) rfl) rfl, gm (List.mem_of_getElem? (i := 112) (by decide +kernel)) rfl, by decide, by decide, by decide +kernel⟩
set_option maxRecDepth 100000 in
theorem in_X9_debt : Cond.instanceMethod yX9_debt ∈ gw := gm (List.mem_of_getElem? (i := 1162) (by decide +kernel)) rfl
set_option maxRecDepth 100000 in
theorem se_X9_debt : Cond.selects yX9_debt.cls yX9_debt yX9_debt ∈ gw := gm (List.mem_of_getElem? (i := 1163) (by decide +kernel)) rfl
set_option maxRecDepth 100000 in
theorem wm_L_108 : Cond.methodLink RL 108 yX10_debt ∈ gw := gm (List.mem_of_getElem? (i := 1807) (by decide +kernel)) rfl
set_option maxRecDepth 100000 in
theorem mi_X10_debt : MI yX10_debt cX10_debt 7 (some .int) 3 := ⟨gm (List.mem_of_getElem? (i := 1810) rfl) rfl, gm (List.mem_of_getElem? (i := 124) (by decide +kernel)) rfl, by decide, by decide, by decide +kernel⟩
set_option maxRecDepth 100000 in
theorem in_X10_debt : Cond.instanceMethod yX10_debt ∈ gw := gm (List.mem_of_getElem? (i := 1808) (by decide +kernel)) rfl
set_option maxRecDepth 100000 in
theorem se_X10_debt : Cond.selects yX10_debt.cls yX10_debt yX10_debt ∈ gw := gm (List.mem_of_getElem? (i := 1809) (by decide +kernel)) rfl
set_option maxHeartbeats 8000000 in
set_option maxRecDepth 100000 in
theorem law_debt {p : Program} {l : Launch} {e : Env} {s : State} {m : MethodId} {below : List Frame} {meth : Method} {c : Code} {b L ax am : Nat} {xs : Nat → Int32} {A : Nat → Prop} {G : va_G} {cI cJ cB cZ : ClassId} (hC : CallFix p m c code 4 s #[Value.ref b] gw R_law) (hr : meth.sig.returnType = ret) (hlk : meth.locks = false) (hN : NW s) (hZ : SW A s s.heap) (hK : va_K G cl (TY cI cJ cB cZ) s) (hX : va_X b L xs s s.heap) (hbl : b < s.heap.size) (hA : ∀ q, s.heap.size ≤ q → A q) (hbA : ¬ A b) (hfo : ∀ q, A q → s.heap.size ≤ q) {n : Nat} (ih : LI p l e s m below meth c b L A G cI cJ cB cZ ax am n) (g : Nat) (tm : Int) (wx wm : va_W) (i : Int32) (H : Heap) (locs : List Loc) (ls : Array Slot) (hXI : XI cI cJ cB cZ ax tm g wx) (hMJ : MJ cI cJ cB cZ am tm wm) (hi0 : 0 ≤ i.toInt) (hiL : i.toInt ≤ (L : Int) + 6) (hL : L ≤ 3072) (hm : (L : Int) + 6 - i.toInt < (n : Int) + 1) (hi6 : i.toInt + 6 ≤ (L : Int)) (hP : va_P G cl (wx ++ wm) H) (hD : va_D A (wx ++ wm)) (hS : va_S A s.heap H locs) (hl : lv_has ls 4 [(3, .int i), (2, .ref am), (1, .ref ax), (0, .ref b)]) : W p l e room_1 s m #[Value.ref b] below meth c H locs (1000 + g) (1000000 + fs g) (lw_Z below #[Value.ref b] s) (F0 m 929 ls []) := by
  obtain ⟨hx, hb, hml, hown, hts⟩ := id hC
  refine lv_aload_n hx hb dL_law_929 rfl (lv_at hl 2 rfl) ?_
  refine lv_aload_n hx hb dL_law_930 rfl (lv_at hl 3 rfl) ?_
  refine lv_iload_n hx hb dL_law_931 rfl (lv_at hl 0 rfl) ?_
  refine lv_iconst (v := 1) hx hb dL_law_932 (by decide) ?_
  refine lv_iadd hx hb dL_law_933 ?_
  refine t_i (fun q => q.toInt = i.toInt + 1) (add_i (by show (-2147483648 : Int) ≤ i.toInt + 1; omega) (by show i.toInt + 1 ≤ (2147483647 : Int); omega)) (fun z1 tz1 => ?_)
  refine va_sld hx hb hX hbl hbA hS (i := z1) (vp_in_iff.mpr ⟨by omega, by omega⟩) dL_law_934 ?_
  refine t_i (fun q => ∀ k : Int, (z1 : Int32).toInt = k → q.toInt = gI xs k) (fun _ hk => gI_of hk) (fun z2 sx_934 => ?_)
  refine lv_aload_n hx hb dL_law_935 rfl (lv_at hl 3 rfl) ?_
  refine lv_iload_n hx hb dL_law_936 rfl (lv_at hl 0 rfl) ?_
  refine lv_iconst (v := 2) hx hb dL_law_937 (by decide) ?_
  refine lv_iadd hx hb dL_law_938 ?_
  refine t_i (fun q => q.toInt = i.toInt + 2) (add_i (by show (-2147483648 : Int) ≤ i.toInt + 2; omega) (by show i.toInt + 2 ≤ (2147483647 : Int); omega)) (fun z3 tz3 => ?_)
  refine va_sld hx hb hX hbl hbA hS (i := z3) (vp_in_iff.mpr ⟨by omega, by omega⟩) dL_law_939 ?_
  refine t_i (fun q => ∀ k : Int, (z3 : Int32).toInt = k → q.toInt = gI xs k) (fun _ hk => gI_of hk) (fun z4 sx_939 => ?_)
  have JB_948 : ∀ zb5 : Int32, 0 ≤ zb5.toInt ∧ zb5.toInt ≤ 1 → W p l e room_1 s m #[Value.ref b] below meth c H locs (1000 + g) (1000000 + fs g) (lw_Z below #[Value.ref b] s) (F0 m 948 ls [.int zb5, .int z2, .ref ax]) := by
    intro zb5 hzb5
    refine lv_aload_n hx hb dL_law_948 rfl (lv_at hl 3 rfl) ?_
    refine lv_iload_n hx hb dL_law_949 rfl (lv_at hl 0 rfl) ?_
    refine lv_iconst (v := 3) hx hb dL_law_950 (by decide) ?_
    refine lv_iadd hx hb dL_law_951 ?_
    refine t_i (fun q => q.toInt = i.toInt + 3) (add_i (by show (-2147483648 : Int) ≤ i.toInt + 3; omega) (by show i.toInt + 3 ≤ (2147483647 : Int); omega)) (fun z6 tz6 => ?_)
    refine va_sld hx hb hX hbl hbA hS (i := z6) (vp_in_iff.mpr ⟨by omega, by omega⟩) dL_law_952 ?_
    refine t_i (fun q => ∀ k : Int, (z6 : Int32).toInt = k → q.toInt = gI xs k) (fun _ hk => gI_of hk) (fun z7 sx_952 => ?_)
    refine W.know (fun hgr => ?_)
    refine k_LG hC hN hZ hS hA hK hP hD (xw_debt l G cI cJ cB cZ hXI z2 zb5 z7 hzb5) mi_X9_debt in_X9_debt se_X9_debt wm_L_105 9 rfl rfl (hXI.rc) hl.1 rfl rfl (Nat.le_of_ble_eq_true rfl) ⟨(Nat.le_of_ble_eq_true rfl), (Nat.le_of_ble_eq_true rfl)⟩ dL_law_953 (gr_wG hXI.g11) (fun r8 u8 H locs hp hP hD hS hgn => ?_)
    obtain ⟨g8, w8⟩ := u8
    obtain ⟨hXI8, hgg⟩ := hp
    have hXI8 : XI cI cJ cB cZ ax tm g8 w8 := hXI8
    have hgg : g ≤ g8 := hgg
    refine W.tight (k := 1000 + g8) (n := 1000000 + fs g8) (GR.tr4 hgr hgn hgg) ?_
    have hP : va_P G cl (wm ++ w8) H := hP
    have hD : va_D A (wm ++ w8) := hD
    refine lv_pop hx hb dL_law_956 rfl ?_
    refine lv_aload_n hx hb dL_law_957 rfl (lv_at hl 1 rfl) ?_
    refine lv_aload_n hx hb dL_law_958 rfl (lv_at hl 3 rfl) ?_
    refine lv_iload_n hx hb dL_law_959 rfl (lv_at hl 0 rfl) ?_
    refine lv_iconst (v := 1) hx hb dL_law_960 (by decide) ?_
    refine lv_iadd hx hb dL_law_961 ?_
    refine t_i (fun q => q.toInt = i.toInt + 1) (add_i (by show (-2147483648 : Int) ≤ i.toInt + 1; omega) (by show i.toInt + 1 ≤ (2147483647 : Int); omega)) (fun z9 tz9 => ?_)
    refine va_sld hx hb hX hbl hbA hS (i := z9) (vp_in_iff.mpr ⟨by omega, by omega⟩) dL_law_962 ?_
    refine t_i (fun q => ∀ k : Int, (z9 : Int32).toInt = k → q.toInt = gI xs k) (fun _ hk => gI_of hk) (fun z10 sx_962 => ?_)
    refine lv_aload_n hx hb dL_law_963 rfl (lv_at hl 3 rfl) ?_
    refine lv_iload_n hx hb dL_law_964 rfl (lv_at hl 0 rfl) ?_
    refine lv_iconst (v := 2) hx hb dL_law_965 (by decide) ?_
    refine lv_iadd hx hb dL_law_966 ?_
    refine t_i (fun q => q.toInt = i.toInt + 2) (add_i (by show (-2147483648 : Int) ≤ i.toInt + 2; omega) (by show i.toInt + 2 ≤ (2147483647 : Int); omega)) (fun z11 tz11 => ?_)
    refine va_sld hx hb hX hbl hbA hS (i := z11) (vp_in_iff.mpr ⟨by omega, by omega⟩) dL_law_967 ?_
    refine t_i (fun q => ∀ k : Int, (z11 : Int32).toInt = k → q.toInt = gI xs k) (fun _ hk => gI_of hk) (fun z12 sx_967 => ?_)
    have JB_976 : ∀ zb13 : Int32, 0 ≤ zb13.toInt ∧ zb13.toInt ≤ 1 → W p l e room_1 s m #[Value.ref b] below meth c H locs (1000 + g8) (1000000 + fs g8) (lw_Z below #[Value.ref b] s) (F0 m 976 ls [.int zb13, .int z10, .ref am]) := by
      intro zb13 hzb13
      refine lv_aload_n hx hb dL_law_976 rfl (lv_at hl 3 rfl) ?_
      refine lv_iload_n hx hb dL_law_977 rfl (lv_at hl 0 rfl) ?_
      refine lv_iconst (v := 3) hx hb dL_law_978 (by decide) ?_
      refine lv_iadd hx hb dL_law_979 ?_
      refine t_i (fun q => q.toInt = i.toInt + 3) (add_i (by show (-2147483648 : Int) ≤ i.toInt + 3; omega) (by show i.toInt + 3 ≤ (2147483647 : Int); omega)) (fun z14 tz14 => ?_)
      refine va_sld hx hb hX hbl hbA hS (i := z14) (vp_in_iff.mpr ⟨by omega, by omega⟩) dL_law_980 ?_
      refine t_i (fun q => ∀ k : Int, (z14 : Int32).toInt = k → q.toInt = gI xs k) (fun _ hk => gI_of hk) (fun z15 sx_980 => ?_)
      refine k_L hC hN hZ hS hA hK hP hD (mw_debt l G cI cJ cB cZ hMJ z10 zb13 z15 hzb13) mi_X10_debt in_X10_debt se_X10_debt wm_L_108 10 rfl rfl (hMJ.rc) hl.1 rfl rfl (Nat.le_of_ble_eq_true rfl) ⟨(Nat.le_of_ble_eq_true rfl), (Nat.le_of_ble_eq_true rfl)⟩ dL_law_981 ⟨rfl, rfl⟩ (gr_w0 hXI8.g11) (fun r16 u16 H locs hp hP hD hS => ?_)
      have hMJ16 : MJ cI cJ cB cZ am tm u16 := hp
      have hP : va_P G cl (w8 ++ u16) H := hP
      have hD : va_D A (w8 ++ u16) := hD
      refine lv_pop hx hb dL_law_984 rfl ?_
      refine lv_goto (tgt := 1428) hx hb dL_law_985 (by decide) ?_
      obtain ⟨z17, ez17⟩ : ∃ q : Int32, q = i + Int32.ofInt 6 := ⟨_, rfl⟩
      have tz17 : z17.toInt = i.toInt + 6 := by rw [ez17]; exact add_i (y := 6) (by have p_ := i_lo i; show _ ≤ _ + (6 : Int); omega) (by have q_ := i_hi i; show _ + (6 : Int) ≤ _; omega)
      refine lv_iinc (v := z17) (lv' := [(3, .int z17), (2, .ref am), (1, .ref ax), (0, .ref b)]) hx hb dL_law_1428 hl (k := 0) rfl ez17.symm (by decide) rfl (fun ls hl => ?_)
      refine lv_goto (tgt := 18) hx hb dL_law_1431 (by decide) ?_
      exact ih g8 tm w8 u16 z17 H locs ls hXI8 hMJ16 (by omega) (by omega) (by omega) hP hD hS (lv_sub hl [0, 1, 2, 3] rfl)
    refine lv_if_eq (tgt := 975) hx hb dL_law_968 (by decide) (fun _ => ?_) (fun _ => ?_)
    · refine lv_iconst (v := 0) hx hb dL_law_975 (by decide) ?_
      exact JB_976 0 (by decide)
    · refine lv_iconst (v := 1) hx hb dL_law_971 (by decide) ?_
      refine lv_goto (tgt := 976) hx hb dL_law_972 (by decide) ?_
      exact JB_976 1 (by decide)
  refine lv_if_eq (tgt := 947) hx hb dL_law_940 (by decide) (fun _ => ?_) (fun _ => ?_)
  · refine lv_iconst (v := 0) hx hb dL_law_947 (by decide) ?_
    exact JB_948 0 (by decide)
  · refine lv_iconst (v := 1) hx hb dL_law_943 (by decide) ?_
    refine lv_goto (tgt := 948) hx hb dL_law_944 (by decide) ?_
    exact JB_948 1 (by decide)
set_option maxRecDepth 100000 in
theorem wm_L_109 : Cond.methodLink RL 109 yX9_joined ∈ gw := gm (List.mem_of_getElem? (i := 1170) (by decide +kernel)) rfl
set_option maxRecDepth 100000 in
theorem mi_X9_joined : MI yX9_joined cX9_joined 7 (some .int) 2 := ⟨gm (List.mem_of_getElem? (i := 1173) rfl) rfl, gm (List.mem_of_getElem? (i := 112) (by decide +kernel)) rfl, by decide, by decide, by decide +kernel⟩
set_option maxRecDepth 100000 in
theorem in_X9_joined : Cond.instanceMethod yX9_joined ∈ gw := gm (List.mem_of_getElem? (i := 1171) (by decide +kernel)) rfl
set_option maxRecDepth 100000 in
theorem se_X9_joined : Cond.selects yX9_joined.cls yX9_joined yX9_joined ∈ gw := gm (List.mem_of_getElem? (i := 1172) (by decide +kernel)) rfl
set_option maxRecDepth 100000 in
theorem wm_L_113 : Cond.methodLink RL 113 yX10_joined ∈ gw := gm (List.mem_of_getElem? (i := 1811) (by decide +kernel)) rfl
set_option maxRecDepth 100000 in
theorem mi_X10_joined : MI yX10_joined cX10_joined 4 (some .int) 2 := ⟨gm (List.mem_of_getElem? (i := 1814) rfl) rfl, gm (List.mem_of_getElem? (i := 124) (by decide +kernel)) rfl, by decide, by decide, by decide +kernel⟩
set_option maxRecDepth 100000 in
theorem in_X10_joined : Cond.instanceMethod yX10_joined ∈ gw := gm (List.mem_of_getElem? (i := 1812) (by decide +kernel)) rfl
set_option maxRecDepth 100000 in
theorem se_X10_joined : Cond.selects yX10_joined.cls yX10_joined yX10_joined ∈ gw := gm (List.mem_of_getElem? (i := 1813) (by decide +kernel)) rfl
set_option maxHeartbeats 8000000 in
set_option maxRecDepth 100000 in
theorem law_joined {p : Program} {l : Launch} {e : Env} {s : State} {m : MethodId} {below : List Frame} {meth : Method} {c : Code} {b L ax am : Nat} {xs : Nat → Int32} {A : Nat → Prop} {G : va_G} {cI cJ cB cZ : ClassId} (hC : CallFix p m c code 4 s #[Value.ref b] gw R_law) (hr : meth.sig.returnType = ret) (hlk : meth.locks = false) (hN : NW s) (hZ : SW A s s.heap) (hK : va_K G cl (TY cI cJ cB cZ) s) (hX : va_X b L xs s s.heap) (hbl : b < s.heap.size) (hA : ∀ q, s.heap.size ≤ q → A q) (hbA : ¬ A b) (hfo : ∀ q, A q → s.heap.size ≤ q) {n : Nat} (ih : LI p l e s m below meth c b L A G cI cJ cB cZ ax am n) (g : Nat) (tm : Int) (wx wm : va_W) (i : Int32) (H : Heap) (locs : List Loc) (ls : Array Slot) (hXI : XI cI cJ cB cZ ax tm g wx) (hMJ : MJ cI cJ cB cZ am tm wm) (hi0 : 0 ≤ i.toInt) (hiL : i.toInt ≤ (L : Int) + 6) (hL : L ≤ 3072) (hm : (L : Int) + 6 - i.toInt < (n : Int) + 1) (hi6 : i.toInt + 6 ≤ (L : Int)) (hP : va_P G cl (wx ++ wm) H) (hD : va_D A (wx ++ wm)) (hS : va_S A s.heap H locs) (hl : lv_has ls 4 [(3, .int i), (2, .ref am), (1, .ref ax), (0, .ref b)]) : W p l e room_1 s m #[Value.ref b] below meth c H locs (1000 + g) (1000000 + fs g) (lw_Z below #[Value.ref b] s) (F0 m 988 ls []) := by
  obtain ⟨hx, hb, hml, hown, hts⟩ := id hC
  refine lv_aload_n hx hb dL_law_988 rfl (lv_at hl 2 rfl) ?_
  refine lv_aload_n hx hb dL_law_989 rfl (lv_at hl 3 rfl) ?_
  refine lv_iload_n hx hb dL_law_990 rfl (lv_at hl 0 rfl) ?_
  refine lv_iconst (v := 1) hx hb dL_law_991 (by decide) ?_
  refine lv_iadd hx hb dL_law_992 ?_
  refine t_i (fun q => q.toInt = i.toInt + 1) (add_i (by show (-2147483648 : Int) ≤ i.toInt + 1; omega) (by show i.toInt + 1 ≤ (2147483647 : Int); omega)) (fun z1 tz1 => ?_)
  refine va_sld hx hb hX hbl hbA hS (i := z1) (vp_in_iff.mpr ⟨by omega, by omega⟩) dL_law_993 ?_
  refine t_i (fun q => ∀ k : Int, (z1 : Int32).toInt = k → q.toInt = gI xs k) (fun _ hk => gI_of hk) (fun z2 sx_993 => ?_)
  have JB_1002 : ∀ zb3 : Int32, 0 ≤ zb3.toInt ∧ zb3.toInt ≤ 1 → W p l e room_1 s m #[Value.ref b] below meth c H locs (1000 + g) (1000000 + fs g) (lw_Z below #[Value.ref b] s) (F0 m 1002 ls [.int zb3, .ref ax]) := by
    intro zb3 hzb3
    refine lv_aload_n hx hb dL_law_1002 rfl (lv_at hl 3 rfl) ?_
    refine lv_iload_n hx hb dL_law_1003 rfl (lv_at hl 0 rfl) ?_
    refine lv_iconst (v := 2) hx hb dL_law_1004 (by decide) ?_
    refine lv_iadd hx hb dL_law_1005 ?_
    refine t_i (fun q => q.toInt = i.toInt + 2) (add_i (by show (-2147483648 : Int) ≤ i.toInt + 2; omega) (by show i.toInt + 2 ≤ (2147483647 : Int); omega)) (fun z4 tz4 => ?_)
    refine va_sld hx hb hX hbl hbA hS (i := z4) (vp_in_iff.mpr ⟨by omega, by omega⟩) dL_law_1006 ?_
    refine t_i (fun q => ∀ k : Int, (z4 : Int32).toInt = k → q.toInt = gI xs k) (fun _ hk => gI_of hk) (fun z5 sx_1006 => ?_)
    refine W.know (fun hgr => ?_)
    refine k_LG hC hN hZ hS hA hK hP hD (xw_joined l G cI cJ cB cZ hXI zb3 z5 hzb3) mi_X9_joined in_X9_joined se_X9_joined wm_L_109 9 rfl rfl (hXI.rc) hl.1 rfl rfl (Nat.le_of_ble_eq_true rfl) ⟨(Nat.le_of_ble_eq_true rfl), (Nat.le_of_ble_eq_true rfl)⟩ dL_law_1007 (gr_wG hXI.g11) (fun r6 u6 H locs hp hP hD hS hgn => ?_)
    obtain ⟨g6, w6⟩ := u6
    obtain ⟨hXI6, hgg⟩ := hp
    have hXI6 : XI cI cJ cB cZ ax tm g6 w6 := hXI6
    have hgg : g ≤ g6 := hgg
    refine W.tight (k := 1000 + g6) (n := 1000000 + fs g6) (GR.tr4 hgr hgn hgg) ?_
    have hP : va_P G cl (wm ++ w6) H := hP
    have hD : va_D A (wm ++ w6) := hD
    refine lv_pop hx hb dL_law_1010 rfl ?_
    refine lv_aload_n hx hb dL_law_1011 rfl (lv_at hl 1 rfl) ?_
    refine lv_aload_n hx hb dL_law_1012 rfl (lv_at hl 3 rfl) ?_
    refine lv_iload_n hx hb dL_law_1013 rfl (lv_at hl 0 rfl) ?_
    refine lv_iconst (v := 1) hx hb dL_law_1014 (by decide) ?_
    refine lv_iadd hx hb dL_law_1015 ?_
    refine t_i (fun q => q.toInt = i.toInt + 1) (add_i (by show (-2147483648 : Int) ≤ i.toInt + 1; omega) (by show i.toInt + 1 ≤ (2147483647 : Int); omega)) (fun z7 tz7 => ?_)
    refine va_sld hx hb hX hbl hbA hS (i := z7) (vp_in_iff.mpr ⟨by omega, by omega⟩) dL_law_1016 ?_
    refine t_i (fun q => ∀ k : Int, (z7 : Int32).toInt = k → q.toInt = gI xs k) (fun _ hk => gI_of hk) (fun z8 sx_1016 => ?_)
    have JB_1025 : ∀ zb9 : Int32, 0 ≤ zb9.toInt ∧ zb9.toInt ≤ 1 → W p l e room_1 s m #[Value.ref b] below meth c H locs (1000 + g6) (1000000 + fs g6) (lw_Z below #[Value.ref b] s) (F0 m 1025 ls [.int zb9, .ref am]) := by
      intro zb9 hzb9
      refine lv_aload_n hx hb dL_law_1025 rfl (lv_at hl 3 rfl) ?_
      refine lv_iload_n hx hb dL_law_1026 rfl (lv_at hl 0 rfl) ?_
      refine lv_iconst (v := 2) hx hb dL_law_1027 (by decide) ?_
      refine lv_iadd hx hb dL_law_1028 ?_
      refine t_i (fun q => q.toInt = i.toInt + 2) (add_i (by show (-2147483648 : Int) ≤ i.toInt + 2; omega) (by show i.toInt + 2 ≤ (2147483647 : Int); omega)) (fun z10 tz10 => ?_)
      refine va_sld hx hb hX hbl hbA hS (i := z10) (vp_in_iff.mpr ⟨by omega, by omega⟩) dL_law_1029 ?_
      refine t_i (fun q => ∀ k : Int, (z10 : Int32).toInt = k → q.toInt = gI xs k) (fun _ hk => gI_of hk) (fun z11 sx_1029 => ?_)
      refine k_L hC hN hZ hS hA hK hP hD (mw_joined l G cI cJ cB cZ hMJ zb9 z11 hzb9) mi_X10_joined in_X10_joined se_X10_joined wm_L_113 10 rfl rfl (hMJ.rc) hl.1 rfl rfl (Nat.le_of_ble_eq_true rfl) ⟨(Nat.le_of_ble_eq_true rfl), (Nat.le_of_ble_eq_true rfl)⟩ dL_law_1030 ⟨rfl, rfl⟩ (gr_w0 hXI6.g11) (fun r12 u12 H locs hp hP hD hS => ?_)
      have hMJ12 : MJ cI cJ cB cZ am tm u12 := hp
      have hP : va_P G cl (w6 ++ u12) H := hP
      have hD : va_D A (w6 ++ u12) := hD
      refine lv_pop hx hb dL_law_1033 rfl ?_
      refine lv_goto (tgt := 1428) hx hb dL_law_1034 (by decide) ?_
      obtain ⟨z13, ez13⟩ : ∃ q : Int32, q = i + Int32.ofInt 6 := ⟨_, rfl⟩
      have tz13 : z13.toInt = i.toInt + 6 := by rw [ez13]; exact add_i (y := 6) (by have p_ := i_lo i; show _ ≤ _ + (6 : Int); omega) (by have q_ := i_hi i; show _ + (6 : Int) ≤ _; omega)
      refine lv_iinc (v := z13) (lv' := [(3, .int z13), (2, .ref am), (1, .ref ax), (0, .ref b)]) hx hb dL_law_1428 hl (k := 0) rfl ez13.symm (by decide) rfl (fun ls hl => ?_)
      refine lv_goto (tgt := 18) hx hb dL_law_1431 (by decide) ?_
      exact ih g6 tm w6 u12 z13 H locs ls hXI6 hMJ12 (by omega) (by omega) (by omega) hP hD hS (lv_sub hl [0, 1, 2, 3] rfl)
    refine lv_if_eq (tgt := 1024) hx hb dL_law_1017 (by decide) (fun _ => ?_) (fun _ => ?_)
    · refine lv_iconst (v := 0) hx hb dL_law_1024 (by decide) ?_
      exact JB_1025 0 (by decide)
    · refine lv_iconst (v := 1) hx hb dL_law_1020 (by decide) ?_
      refine lv_goto (tgt := 1025) hx hb dL_law_1021 (by decide) ?_
      exact JB_1025 1 (by decide)
  refine lv_if_eq (tgt := 1001) hx hb dL_law_994 (by decide) (fun _ => ?_) (fun _ => ?_)
  · refine lv_iconst (v := 0) hx hb dL_law_1001 (by decide) ?_
    exact JB_1002 0 (by decide)
  · refine lv_iconst (v := 1) hx hb dL_law_997 (by decide) ?_
    refine lv_goto (tgt := 1002) hx hb dL_law_998 (by decide) ?_
    exact JB_1002 1 (by decide)
set_option maxRecDepth 100000 in
theorem wm_L_114 : Cond.methodLink RL 114 yX9_lieYear ∈ gw := gm (List.mem_of_getElem? (i := 1178) (by decide +kernel)) rfl
set_option maxRecDepth 100000 in
theorem mi_X9_lieYear : MI yX9_lieYear cX9_lieYear 5 (some .int) 2 := ⟨gm (List.mem_of_getElem? (i := 1181) rfl) rfl, gm (List.mem_of_getElem? (i := 112) (by decide +kernel)) rfl, by decide, by decide, by decide +kernel⟩
set_option maxRecDepth 100000 in
theorem in_X9_lieYear : Cond.instanceMethod yX9_lieYear ∈ gw := gm (List.mem_of_getElem? (i := 1179) (by decide +kernel)) rfl
set_option maxRecDepth 100000 in
theorem se_X9_lieYear : Cond.selects yX9_lieYear.cls yX9_lieYear yX9_lieYear ∈ gw := gm (List.mem_of_getElem? (i := 1180) (by decide +kernel)) rfl
set_option maxRecDepth 100000 in
theorem wm_L_117 : Cond.methodLink RL 117 yX10_lieYear ∈ gw := gm (List.mem_of_getElem? (i := 1815) (by decide +kernel)) rfl
set_option maxRecDepth 100000 in
theorem mi_X10_lieYear : MI yX10_lieYear cX10_lieYear 6 (some .int) 2 := ⟨gm (List.mem_of_getElem? (i := 1818) rfl) rfl, gm (List.mem_of_getElem? (i := 124) (by decide +kernel)) rfl, by decide, by decide, by decide +kernel⟩
set_option maxRecDepth 100000 in
theorem in_X10_lieYear : Cond.instanceMethod yX10_lieYear ∈ gw := gm (List.mem_of_getElem? (i := 1816) (by decide +kernel)) rfl
set_option maxRecDepth 100000 in
theorem se_X10_lieYear : Cond.selects yX10_lieYear.cls yX10_lieYear yX10_lieYear ∈ gw := gm (List.mem_of_getElem? (i := 1817) (by decide +kernel)) rfl
set_option maxHeartbeats 8000000 in
set_option maxRecDepth 100000 in
theorem law_lieYear {p : Program} {l : Launch} {e : Env} {s : State} {m : MethodId} {below : List Frame} {meth : Method} {c : Code} {b L ax am : Nat} {xs : Nat → Int32} {A : Nat → Prop} {G : va_G} {cI cJ cB cZ : ClassId} (hC : CallFix p m c code 4 s #[Value.ref b] gw R_law) (hr : meth.sig.returnType = ret) (hlk : meth.locks = false) (hN : NW s) (hZ : SW A s s.heap) (hK : va_K G cl (TY cI cJ cB cZ) s) (hX : va_X b L xs s s.heap) (hbl : b < s.heap.size) (hA : ∀ q, s.heap.size ≤ q → A q) (hbA : ¬ A b) (hfo : ∀ q, A q → s.heap.size ≤ q) {n : Nat} (ih : LI p l e s m below meth c b L A G cI cJ cB cZ ax am n) (g : Nat) (tm : Int) (wx wm : va_W) (i : Int32) (H : Heap) (locs : List Loc) (ls : Array Slot) (hXI : XI cI cJ cB cZ ax tm g wx) (hMJ : MJ cI cJ cB cZ am tm wm) (hi0 : 0 ≤ i.toInt) (hiL : i.toInt ≤ (L : Int) + 6) (hL : L ≤ 3072) (hm : (L : Int) + 6 - i.toInt < (n : Int) + 1) (hi6 : i.toInt + 6 ≤ (L : Int)) (hP : va_P G cl (wx ++ wm) H) (hD : va_D A (wx ++ wm)) (hS : va_S A s.heap H locs) (hl : lv_has ls 4 [(3, .int i), (2, .ref am), (1, .ref ax), (0, .ref b)]) : W p l e room_1 s m #[Value.ref b] below meth c H locs (1000 + g) (1000000 + fs g) (lw_Z below #[Value.ref b] s) (F0 m 1037 ls []) := by
  obtain ⟨hx, hb, hml, hown, hts⟩ := id hC
  refine lv_aload_n hx hb dL_law_1037 rfl (lv_at hl 2 rfl) ?_
  refine lv_aload_n hx hb dL_law_1038 rfl (lv_at hl 3 rfl) ?_
  refine lv_iload_n hx hb dL_law_1039 rfl (lv_at hl 0 rfl) ?_
  refine lv_iconst (v := 1) hx hb dL_law_1040 (by decide) ?_
  refine lv_iadd hx hb dL_law_1041 ?_
  refine t_i (fun q => q.toInt = i.toInt + 1) (add_i (by show (-2147483648 : Int) ≤ i.toInt + 1; omega) (by show i.toInt + 1 ≤ (2147483647 : Int); omega)) (fun z1 tz1 => ?_)
  refine va_sld hx hb hX hbl hbA hS (i := z1) (vp_in_iff.mpr ⟨by omega, by omega⟩) dL_law_1042 ?_
  refine t_i (fun q => ∀ k : Int, (z1 : Int32).toInt = k → q.toInt = gI xs k) (fun _ hk => gI_of hk) (fun z2 sx_1042 => ?_)
  refine lv_aload_n hx hb dL_law_1043 rfl (lv_at hl 3 rfl) ?_
  refine lv_iload_n hx hb dL_law_1044 rfl (lv_at hl 0 rfl) ?_
  refine lv_iconst (v := 2) hx hb dL_law_1045 (by decide) ?_
  refine lv_iadd hx hb dL_law_1046 ?_
  refine t_i (fun q => q.toInt = i.toInt + 2) (add_i (by show (-2147483648 : Int) ≤ i.toInt + 2; omega) (by show i.toInt + 2 ≤ (2147483647 : Int); omega)) (fun z3 tz3 => ?_)
  refine va_sld hx hb hX hbl hbA hS (i := z3) (vp_in_iff.mpr ⟨by omega, by omega⟩) dL_law_1047 ?_
  refine t_i (fun q => ∀ k : Int, (z3 : Int32).toInt = k → q.toInt = gI xs k) (fun _ hk => gI_of hk) (fun z4 sx_1047 => ?_)
  refine W.know (fun hgr => ?_)
  refine k_LG hC hN hZ hS hA hK hP hD (xw_lieYear l G cI cJ cB cZ hXI z2 z4) mi_X9_lieYear in_X9_lieYear se_X9_lieYear wm_L_114 9 rfl rfl (hXI.rc) hl.1 rfl rfl (Nat.le_of_ble_eq_true rfl) ⟨(Nat.le_of_ble_eq_true rfl), (Nat.le_of_ble_eq_true rfl)⟩ dL_law_1048 (gr_wG hXI.g11) (fun r5 u5 H locs hp hP hD hS hgn => ?_)
  obtain ⟨g5, w5⟩ := u5
  obtain ⟨hXI5, hgg⟩ := hp
  have hXI5 : XI cI cJ cB cZ ax tm g5 w5 := hXI5
  have hgg : g ≤ g5 := hgg
  refine W.tight (k := 1000 + g5) (n := 1000000 + fs g5) (GR.tr4 hgr hgn hgg) ?_
  have hP : va_P G cl (wm ++ w5) H := hP
  have hD : va_D A (wm ++ w5) := hD
  refine lv_pop hx hb dL_law_1051 rfl ?_
  refine lv_aload_n hx hb dL_law_1052 rfl (lv_at hl 1 rfl) ?_
  refine lv_aload_n hx hb dL_law_1053 rfl (lv_at hl 3 rfl) ?_
  refine lv_iload_n hx hb dL_law_1054 rfl (lv_at hl 0 rfl) ?_
  refine lv_iconst (v := 1) hx hb dL_law_1055 (by decide) ?_
  refine lv_iadd hx hb dL_law_1056 ?_
  refine t_i (fun q => q.toInt = i.toInt + 1) (add_i (by show (-2147483648 : Int) ≤ i.toInt + 1; omega) (by show i.toInt + 1 ≤ (2147483647 : Int); omega)) (fun z6 tz6 => ?_)
  refine va_sld hx hb hX hbl hbA hS (i := z6) (vp_in_iff.mpr ⟨by omega, by omega⟩) dL_law_1057 ?_
  refine t_i (fun q => ∀ k : Int, (z6 : Int32).toInt = k → q.toInt = gI xs k) (fun _ hk => gI_of hk) (fun z7 sx_1057 => ?_)
  refine lv_aload_n hx hb dL_law_1058 rfl (lv_at hl 3 rfl) ?_
  refine lv_iload_n hx hb dL_law_1059 rfl (lv_at hl 0 rfl) ?_
  refine lv_iconst (v := 2) hx hb dL_law_1060 (by decide) ?_
  refine lv_iadd hx hb dL_law_1061 ?_
  refine t_i (fun q => q.toInt = i.toInt + 2) (add_i (by show (-2147483648 : Int) ≤ i.toInt + 2; omega) (by show i.toInt + 2 ≤ (2147483647 : Int); omega)) (fun z8 tz8 => ?_)
  refine va_sld hx hb hX hbl hbA hS (i := z8) (vp_in_iff.mpr ⟨by omega, by omega⟩) dL_law_1062 ?_
  refine t_i (fun q => ∀ k : Int, (z8 : Int32).toInt = k → q.toInt = gI xs k) (fun _ hk => gI_of hk) (fun z9 sx_1062 => ?_)
  refine k_L hC hN hZ hS hA hK hP hD (mw_lieYear l G cI cJ cB cZ hMJ z7 z9) mi_X10_lieYear in_X10_lieYear se_X10_lieYear wm_L_117 10 rfl rfl (hMJ.rc) hl.1 rfl rfl (Nat.le_of_ble_eq_true rfl) ⟨(Nat.le_of_ble_eq_true rfl), (Nat.le_of_ble_eq_true rfl)⟩ dL_law_1063 ⟨rfl, rfl⟩ (gr_w0 hXI5.g11) (fun r10 u10 H locs hp hP hD hS => ?_)
  have hMJ10 : MJ cI cJ cB cZ am tm u10 := hp
  have hP : va_P G cl (w5 ++ u10) H := hP
  have hD : va_D A (w5 ++ u10) := hD
  refine lv_pop hx hb dL_law_1066 rfl ?_
  refine lv_goto (tgt := 1428) hx hb dL_law_1067 (by decide) ?_
  obtain ⟨z11, ez11⟩ : ∃ q : Int32, q = i + Int32.ofInt 6 := ⟨_, rfl⟩
  have tz11 : z11.toInt = i.toInt + 6 := by rw [ez11]; exact add_i (y := 6) (by have p_ := i_lo i; show _ ≤ _ + (6 : Int); omega) (by have q_ := i_hi i; show _ + (6 : Int) ≤ _; omega)
  refine lv_iinc (v := z11) (lv' := [(3, .int z11), (2, .ref am), (1, .ref ax), (0, .ref b)]) hx hb dL_law_1428 hl (k := 0) rfl ez11.symm (by decide) rfl (fun ls hl => ?_)
  refine lv_goto (tgt := 18) hx hb dL_law_1431 (by decide) ?_
  exact ih g5 tm w5 u10 z11 H locs ls hXI5 hMJ10 (by omega) (by omega) (by omega) hP hD hS (lv_sub hl [0, 1, 2, 3] rfl)
set_option maxRecDepth 100000 in
theorem wm_L_118 : Cond.methodLink RL 118 yX9_goods ∈ gw := gm (List.mem_of_getElem? (i := 1188) (by decide +kernel)) rfl
set_option maxRecDepth 100000 in
theorem mi_X9_goods : MI yX9_goods cX9_goods 8 (some .int) 5 := ⟨gm (List.mem_of_getElem? (i := 1191) rfl) rfl, gm (List.mem_of_getElem? (i := 112) (by decide +kernel)) rfl, by decide, by decide, by decide +kernel⟩
set_option maxRecDepth 100000 in
theorem in_X9_goods : Cond.instanceMethod yX9_goods ∈ gw := gm (List.mem_of_getElem? (i := 1189) (by decide +kernel)) rfl
set_option maxRecDepth 100000 in
theorem se_X9_goods : Cond.selects yX9_goods.cls yX9_goods yX9_goods ∈ gw := gm (List.mem_of_getElem? (i := 1190) (by decide +kernel)) rfl
set_option maxRecDepth 100000 in
theorem wm_L_122 : Cond.methodLink RL 122 yX10_goods ∈ gw := gm (List.mem_of_getElem? (i := 1819) (by decide +kernel)) rfl
set_option maxRecDepth 100000 in
theorem mi_X10_goods : MI yX10_goods cX10_goods 7 (some .int) 5 := ⟨gm (List.mem_of_getElem? (i := 1822) rfl) rfl, gm (List.mem_of_getElem? (i := 124) (by decide +kernel)) rfl, by decide, by decide, by decide +kernel⟩
set_option maxRecDepth 100000 in
theorem in_X10_goods : Cond.instanceMethod yX10_goods ∈ gw := gm (List.mem_of_getElem? (i := 1820) (by decide +kernel)) rfl
set_option maxRecDepth 100000 in
theorem se_X10_goods : Cond.selects yX10_goods.cls yX10_goods yX10_goods ∈ gw := gm (List.mem_of_getElem? (i := 1821) (by decide +kernel)) rfl
set_option maxHeartbeats 8000000 in
set_option maxRecDepth 100000 in
theorem law_goods {p : Program} {l : Launch} {e : Env} {s : State} {m : MethodId} {below : List Frame} {meth : Method} {c : Code} {b L ax am : Nat} {xs : Nat → Int32} {A : Nat → Prop} {G : va_G} {cI cJ cB cZ : ClassId} (hC : CallFix p m c code 4 s #[Value.ref b] gw R_law) (hr : meth.sig.returnType = ret) (hlk : meth.locks = false) (hN : NW s) (hZ : SW A s s.heap) (hK : va_K G cl (TY cI cJ cB cZ) s) (hX : va_X b L xs s s.heap) (hbl : b < s.heap.size) (hA : ∀ q, s.heap.size ≤ q → A q) (hbA : ¬ A b) (hfo : ∀ q, A q → s.heap.size ≤ q) {n : Nat} (ih : LI p l e s m below meth c b L A G cI cJ cB cZ ax am n) (g : Nat) (tm : Int) (wx wm : va_W) (i : Int32) (H : Heap) (locs : List Loc) (ls : Array Slot) (hXI : XI cI cJ cB cZ ax tm g wx) (hMJ : MJ cI cJ cB cZ am tm wm) (hi0 : 0 ≤ i.toInt) (hiL : i.toInt ≤ (L : Int) + 6) (hL : L ≤ 3072) (hm : (L : Int) + 6 - i.toInt < (n : Int) + 1) (hi6 : i.toInt + 6 ≤ (L : Int)) (hP : va_P G cl (wx ++ wm) H) (hD : va_D A (wx ++ wm)) (hS : va_S A s.heap H locs) (hl : lv_has ls 4 [(3, .int i), (2, .ref am), (1, .ref ax), (0, .ref b)]) : W p l e room_1 s m #[Value.ref b] below meth c H locs (1000 + g) (1000000 + fs g) (lw_Z below #[Value.ref b] s) (F0 m 1070 ls []) := by
  obtain ⟨hx, hb, hml, hown, hts⟩ := id hC
  refine lv_aload_n hx hb dL_law_1070 rfl (lv_at hl 2 rfl) ?_
  refine lv_aload_n hx hb dL_law_1071 rfl (lv_at hl 3 rfl) ?_
  refine lv_iload_n hx hb dL_law_1072 rfl (lv_at hl 0 rfl) ?_
  refine lv_iconst (v := 1) hx hb dL_law_1073 (by decide) ?_
  refine lv_iadd hx hb dL_law_1074 ?_
  refine t_i (fun q => q.toInt = i.toInt + 1) (add_i (by show (-2147483648 : Int) ≤ i.toInt + 1; omega) (by show i.toInt + 1 ≤ (2147483647 : Int); omega)) (fun z1 tz1 => ?_)
  refine va_sld hx hb hX hbl hbA hS (i := z1) (vp_in_iff.mpr ⟨by omega, by omega⟩) dL_law_1075 ?_
  refine t_i (fun q => ∀ k : Int, (z1 : Int32).toInt = k → q.toInt = gI xs k) (fun _ hk => gI_of hk) (fun z2 sx_1075 => ?_)
  refine lv_aload_n hx hb dL_law_1076 rfl (lv_at hl 3 rfl) ?_
  refine lv_iload_n hx hb dL_law_1077 rfl (lv_at hl 0 rfl) ?_
  refine lv_iconst (v := 2) hx hb dL_law_1078 (by decide) ?_
  refine lv_iadd hx hb dL_law_1079 ?_
  refine t_i (fun q => q.toInt = i.toInt + 2) (add_i (by show (-2147483648 : Int) ≤ i.toInt + 2; omega) (by show i.toInt + 2 ≤ (2147483647 : Int); omega)) (fun z3 tz3 => ?_)
  refine va_sld hx hb hX hbl hbA hS (i := z3) (vp_in_iff.mpr ⟨by omega, by omega⟩) dL_law_1080 ?_
  refine t_i (fun q => ∀ k : Int, (z3 : Int32).toInt = k → q.toInt = gI xs k) (fun _ hk => gI_of hk) (fun z4 sx_1080 => ?_)
  have JB_1089 : ∀ zb5 : Int32, 0 ≤ zb5.toInt ∧ zb5.toInt ≤ 1 → W p l e room_1 s m #[Value.ref b] below meth c H locs (1000 + g) (1000000 + fs g) (lw_Z below #[Value.ref b] s) (F0 m 1089 ls [.int zb5, .int z2, .ref ax]) := by
    intro zb5 hzb5
    refine lv_aload_n hx hb dL_law_1089 rfl (lv_at hl 3 rfl) ?_
    refine lv_iload_n hx hb dL_law_1090 rfl (lv_at hl 0 rfl) ?_
    refine lv_iconst (v := 3) hx hb dL_law_1091 (by decide) ?_
    refine lv_iadd hx hb dL_law_1092 ?_
    refine t_i (fun q => q.toInt = i.toInt + 3) (add_i (by show (-2147483648 : Int) ≤ i.toInt + 3; omega) (by show i.toInt + 3 ≤ (2147483647 : Int); omega)) (fun z6 tz6 => ?_)
    refine va_sld hx hb hX hbl hbA hS (i := z6) (vp_in_iff.mpr ⟨by omega, by omega⟩) dL_law_1093 ?_
    refine t_i (fun q => ∀ k : Int, (z6 : Int32).toInt = k → q.toInt = gI xs k) (fun _ hk => gI_of hk) (fun z7 sx_1093 => ?_)
    refine lv_aload_n hx hb dL_law_1094 rfl (lv_at hl 3 rfl) ?_
    refine lv_iload_n hx hb dL_law_1095 rfl (lv_at hl 0 rfl) ?_
    refine lv_iconst (v := 4) hx hb dL_law_1096 (by decide) ?_
    refine lv_iadd hx hb dL_law_1097 ?_
    refine t_i (fun q => q.toInt = i.toInt + 4) (add_i (by show (-2147483648 : Int) ≤ i.toInt + 4; omega) (by show i.toInt + 4 ≤ (2147483647 : Int); omega)) (fun z8 tz8 => ?_)
    refine va_sld hx hb hX hbl hbA hS (i := z8) (vp_in_iff.mpr ⟨by omega, by omega⟩) dL_law_1098 ?_
    refine t_i (fun q => ∀ k : Int, (z8 : Int32).toInt = k → q.toInt = gI xs k) (fun _ hk => gI_of hk) (fun z9 sx_1098 => ?_)
    have JB_1107 : ∀ zb10 : Int32, 0 ≤ zb10.toInt ∧ zb10.toInt ≤ 1 → W p l e room_1 s m #[Value.ref b] below meth c H locs (1000 + g) (1000000 + fs g) (lw_Z below #[Value.ref b] s) (F0 m 1107 ls [.int zb10, .int z7, .int zb5, .int z2, .ref ax]) := by
      intro zb10 hzb10
      refine lv_aload_n hx hb dL_law_1107 rfl (lv_at hl 3 rfl) ?_
      refine lv_iload_n hx hb dL_law_1108 rfl (lv_at hl 0 rfl) ?_
      refine lv_iconst (v := 5) hx hb dL_law_1109 (by decide) ?_
      refine lv_iadd hx hb dL_law_1110 ?_
      refine t_i (fun q => q.toInt = i.toInt + 5) (add_i (by show (-2147483648 : Int) ≤ i.toInt + 5; omega) (by show i.toInt + 5 ≤ (2147483647 : Int); omega)) (fun z11 tz11 => ?_)
      refine va_sld hx hb hX hbl hbA hS (i := z11) (vp_in_iff.mpr ⟨by omega, by omega⟩) dL_law_1111 ?_
      refine t_i (fun q => ∀ k : Int, (z11 : Int32).toInt = k → q.toInt = gI xs k) (fun _ hk => gI_of hk) (fun z12 sx_1111 => ?_)
      refine W.know (fun hgr => ?_)
      refine k_LG hC hN hZ hS hA hK hP hD (xw_goods l G cI cJ cB cZ hXI z2 zb5 z7 zb10 z12 hzb5 hzb10) mi_X9_goods in_X9_goods se_X9_goods wm_L_118 9 rfl rfl (hXI.rc) hl.1 rfl rfl (Nat.le_of_ble_eq_true rfl) ⟨(Nat.le_of_ble_eq_true rfl), (Nat.le_of_ble_eq_true rfl)⟩ dL_law_1112 (gr_wG hXI.g11) (fun r13 u13 H locs hp hP hD hS hgn => ?_)
      obtain ⟨g13, w13⟩ := u13
      obtain ⟨hXI13, hgg⟩ := hp
      have hXI13 : XI cI cJ cB cZ ax tm g13 w13 := hXI13
      have hgg : g ≤ g13 := hgg
      refine W.tight (k := 1000 + g13) (n := 1000000 + fs g13) (GR.tr4 hgr hgn hgg) ?_
      have hP : va_P G cl (wm ++ w13) H := hP
      have hD : va_D A (wm ++ w13) := hD
      refine lv_pop hx hb dL_law_1115 rfl ?_
      refine lv_aload_n hx hb dL_law_1116 rfl (lv_at hl 1 rfl) ?_
      refine lv_aload_n hx hb dL_law_1117 rfl (lv_at hl 3 rfl) ?_
      refine lv_iload_n hx hb dL_law_1118 rfl (lv_at hl 0 rfl) ?_
      refine lv_iconst (v := 1) hx hb dL_law_1119 (by decide) ?_
      refine lv_iadd hx hb dL_law_1120 ?_
      refine t_i (fun q => q.toInt = i.toInt + 1) (add_i (by show (-2147483648 : Int) ≤ i.toInt + 1; omega) (by show i.toInt + 1 ≤ (2147483647 : Int); omega)) (fun z14 tz14 => ?_)
      refine va_sld hx hb hX hbl hbA hS (i := z14) (vp_in_iff.mpr ⟨by omega, by omega⟩) dL_law_1121 ?_
      refine t_i (fun q => ∀ k : Int, (z14 : Int32).toInt = k → q.toInt = gI xs k) (fun _ hk => gI_of hk) (fun z15 sx_1121 => ?_)
      refine lv_aload_n hx hb dL_law_1122 rfl (lv_at hl 3 rfl) ?_
      refine lv_iload_n hx hb dL_law_1123 rfl (lv_at hl 0 rfl) ?_
      refine lv_iconst (v := 2) hx hb dL_law_1124 (by decide) ?_
      refine lv_iadd hx hb dL_law_1125 ?_
      refine t_i (fun q => q.toInt = i.toInt + 2) (add_i (by show (-2147483648 : Int) ≤ i.toInt + 2; omega) (by show i.toInt + 2 ≤ (2147483647 : Int); omega)) (fun z16 tz16 => ?_)
      refine va_sld hx hb hX hbl hbA hS (i := z16) (vp_in_iff.mpr ⟨by omega, by omega⟩) dL_law_1126 ?_
      refine t_i (fun q => ∀ k : Int, (z16 : Int32).toInt = k → q.toInt = gI xs k) (fun _ hk => gI_of hk) (fun z17 sx_1126 => ?_)
      have JB_1135 : ∀ zb18 : Int32, 0 ≤ zb18.toInt ∧ zb18.toInt ≤ 1 → W p l e room_1 s m #[Value.ref b] below meth c H locs (1000 + g13) (1000000 + fs g13) (lw_Z below #[Value.ref b] s) (F0 m 1135 ls [.int zb18, .int z15, .ref am]) := by
        intro zb18 hzb18
        refine lv_aload_n hx hb dL_law_1135 rfl (lv_at hl 3 rfl) ?_
        refine lv_iload_n hx hb dL_law_1136 rfl (lv_at hl 0 rfl) ?_
        refine lv_iconst (v := 3) hx hb dL_law_1137 (by decide) ?_
        refine lv_iadd hx hb dL_law_1138 ?_
        refine t_i (fun q => q.toInt = i.toInt + 3) (add_i (by show (-2147483648 : Int) ≤ i.toInt + 3; omega) (by show i.toInt + 3 ≤ (2147483647 : Int); omega)) (fun z19 tz19 => ?_)
        refine va_sld hx hb hX hbl hbA hS (i := z19) (vp_in_iff.mpr ⟨by omega, by omega⟩) dL_law_1139 ?_
        refine t_i (fun q => ∀ k : Int, (z19 : Int32).toInt = k → q.toInt = gI xs k) (fun _ hk => gI_of hk) (fun z20 sx_1139 => ?_)
        refine lv_aload_n hx hb dL_law_1140 rfl (lv_at hl 3 rfl) ?_
        refine lv_iload_n hx hb dL_law_1141 rfl (lv_at hl 0 rfl) ?_
        refine lv_iconst (v := 4) hx hb dL_law_1142 (by decide) ?_
        refine lv_iadd hx hb dL_law_1143 ?_
        refine t_i (fun q => q.toInt = i.toInt + 4) (add_i (by show (-2147483648 : Int) ≤ i.toInt + 4; omega) (by show i.toInt + 4 ≤ (2147483647 : Int); omega)) (fun z21 tz21 => ?_)
        refine va_sld hx hb hX hbl hbA hS (i := z21) (vp_in_iff.mpr ⟨by omega, by omega⟩) dL_law_1144 ?_
        refine t_i (fun q => ∀ k : Int, (z21 : Int32).toInt = k → q.toInt = gI xs k) (fun _ hk => gI_of hk) (fun z22 sx_1144 => ?_)
        have JB_1153 : ∀ zb23 : Int32, 0 ≤ zb23.toInt ∧ zb23.toInt ≤ 1 → W p l e room_1 s m #[Value.ref b] below meth c H locs (1000 + g13) (1000000 + fs g13) (lw_Z below #[Value.ref b] s) (F0 m 1153 ls [.int zb23, .int z20, .int zb18, .int z15, .ref am]) := by
          intro zb23 hzb23
          refine lv_aload_n hx hb dL_law_1153 rfl (lv_at hl 3 rfl) ?_
          refine lv_iload_n hx hb dL_law_1154 rfl (lv_at hl 0 rfl) ?_
          refine lv_iconst (v := 5) hx hb dL_law_1155 (by decide) ?_
          refine lv_iadd hx hb dL_law_1156 ?_
          refine t_i (fun q => q.toInt = i.toInt + 5) (add_i (by show (-2147483648 : Int) ≤ i.toInt + 5; omega) (by show i.toInt + 5 ≤ (2147483647 : Int); omega)) (fun z24 tz24 => ?_)
          refine va_sld hx hb hX hbl hbA hS (i := z24) (vp_in_iff.mpr ⟨by omega, by omega⟩) dL_law_1157 ?_
          refine t_i (fun q => ∀ k : Int, (z24 : Int32).toInt = k → q.toInt = gI xs k) (fun _ hk => gI_of hk) (fun z25 sx_1157 => ?_)
          refine k_L hC hN hZ hS hA hK hP hD (mw_goods l G cI cJ cB cZ hMJ z15 zb18 z20 zb23 z25 hzb18 hzb23) mi_X10_goods in_X10_goods se_X10_goods wm_L_122 10 rfl rfl (hMJ.rc) hl.1 rfl rfl (Nat.le_of_ble_eq_true rfl) ⟨(Nat.le_of_ble_eq_true rfl), (Nat.le_of_ble_eq_true rfl)⟩ dL_law_1158 ⟨rfl, rfl⟩ (gr_w0 hXI13.g11) (fun r26 u26 H locs hp hP hD hS => ?_)
          have hMJ26 : MJ cI cJ cB cZ am tm u26 := hp
          have hP : va_P G cl (w13 ++ u26) H := hP
          have hD : va_D A (w13 ++ u26) := hD
          refine lv_pop hx hb dL_law_1161 rfl ?_
          refine lv_goto (tgt := 1428) hx hb dL_law_1162 (by decide) ?_
          obtain ⟨z27, ez27⟩ : ∃ q : Int32, q = i + Int32.ofInt 6 := ⟨_, rfl⟩
          have tz27 : z27.toInt = i.toInt + 6 := by rw [ez27]; exact add_i (y := 6) (by have p_ := i_lo i; show _ ≤ _ + (6 : Int); omega) (by have q_ := i_hi i; show _ + (6 : Int) ≤ _; omega)
          refine lv_iinc (v := z27) (lv' := [(3, .int z27), (2, .ref am), (1, .ref ax), (0, .ref b)]) hx hb dL_law_1428 hl (k := 0) rfl ez27.symm (by decide) rfl (fun ls hl => ?_)
          refine lv_goto (tgt := 18) hx hb dL_law_1431 (by decide) ?_
          exact ih g13 tm w13 u26 z27 H locs ls hXI13 hMJ26 (by omega) (by omega) (by omega) hP hD hS (lv_sub hl [0, 1, 2, 3] rfl)
        refine lv_if_eq (tgt := 1152) hx hb dL_law_1145 (by decide) (fun _ => ?_) (fun _ => ?_)
        · refine lv_iconst (v := 0) hx hb dL_law_1152 (by decide) ?_
          exact JB_1153 0 (by decide)
        · refine lv_iconst (v := 1) hx hb dL_law_1148 (by decide) ?_
          refine lv_goto (tgt := 1153) hx hb dL_law_1149 (by decide) ?_
          exact JB_1153 1 (by decide)
      refine lv_if_eq (tgt := 1134) hx hb dL_law_1127 (by decide) (fun _ => ?_) (fun _ => ?_)
      · refine lv_iconst (v := 0) hx hb dL_law_1134 (by decide) ?_
        exact JB_1135 0 (by decide)
      · refine lv_iconst (v := 1) hx hb dL_law_1130 (by decide) ?_
        refine lv_goto (tgt := 1135) hx hb dL_law_1131 (by decide) ?_
        exact JB_1135 1 (by decide)
    refine lv_if_eq (tgt := 1106) hx hb dL_law_1099 (by decide) (fun _ => ?_) (fun _ => ?_)
    · refine lv_iconst (v := 0) hx hb dL_law_1106 (by decide) ?_
      exact JB_1107 0 (by decide)
    · refine lv_iconst (v := 1) hx hb dL_law_1102 (by decide) ?_
      refine lv_goto (tgt := 1107) hx hb dL_law_1103 (by decide) ?_
      exact JB_1107 1 (by decide)
  refine lv_if_eq (tgt := 1088) hx hb dL_law_1081 (by decide) (fun _ => ?_) (fun _ => ?_)
  · refine lv_iconst (v := 0) hx hb dL_law_1088 (by decide) ?_
    exact JB_1089 0 (by decide)
  · refine lv_iconst (v := 1) hx hb dL_law_1084 (by decide) ?_
    refine lv_goto (tgt := 1089) hx hb dL_law_1085 (by decide) ?_
    exact JB_1089 1 (by decide)
set_option maxRecDepth 100000 in
theorem wm_L_123 : Cond.methodLink RL 123 yX9_twice ∈ gw := gm (List.mem_of_getElem? (i := 1217) (by decide +kernel)) rfl
set_option maxRecDepth 100000 in
theorem mi_X9_twice : MI yX9_twice cX9_twice 8 (some .int) 5 := ⟨gm (List.mem_of_getElem? (i := 1220) rfl) rfl, gm (List.mem_of_getElem? (i := 112) (by decide +kernel)) rfl, by decide, by decide, by decide +kernel⟩
set_option maxRecDepth 100000 in
theorem in_X9_twice : Cond.instanceMethod yX9_twice ∈ gw := gm (List.mem_of_getElem? (i := 1218) (by decide +kernel)) rfl
set_option maxRecDepth 100000 in
theorem se_X9_twice : Cond.selects yX9_twice.cls yX9_twice yX9_twice ∈ gw := gm (List.mem_of_getElem? (i := 1219) (by decide +kernel)) rfl
set_option maxRecDepth 100000 in
theorem wm_L_127 : Cond.methodLink RL 127 yX10_twice ∈ gw := gm (List.mem_of_getElem? (i := 1833) (by decide +kernel)) rfl
set_option maxRecDepth 100000 in
theorem mi_X10_twice : MI yX10_twice cX10_twice 9 (some .int) 5 := ⟨gm (List.mem_of_getElem? (i := 1836) rfl) rfl, gm (List.mem_of_getElem? (i := 124) (by decide +kernel)) rfl, by decide, by decide, by decide +kernel⟩
set_option maxRecDepth 100000 in
theorem in_X10_twice : Cond.instanceMethod yX10_twice ∈ gw := gm (List.mem_of_getElem? (i := 1834) (by decide +kernel)) rfl
set_option maxRecDepth 100000 in
theorem se_X10_twice : Cond.selects yX10_twice.cls yX10_twice yX10_twice ∈ gw := gm (List.mem_of_getElem? (i := 1835) (by decide +kernel)) rfl
set_option maxHeartbeats 8000000 in
set_option maxRecDepth 100000 in
theorem law_twice {p : Program} {l : Launch} {e : Env} {s : State} {m : MethodId} {below : List Frame} {meth : Method} {c : Code} {b L ax am : Nat} {xs : Nat → Int32} {A : Nat → Prop} {G : va_G} {cI cJ cB cZ : ClassId} (hC : CallFix p m c code 4 s #[Value.ref b] gw R_law) (hr : meth.sig.returnType = ret) (hlk : meth.locks = false) (hN : NW s) (hZ : SW A s s.heap) (hK : va_K G cl (TY cI cJ cB cZ) s) (hX : va_X b L xs s s.heap) (hbl : b < s.heap.size) (hA : ∀ q, s.heap.size ≤ q → A q) (hbA : ¬ A b) (hfo : ∀ q, A q → s.heap.size ≤ q) {n : Nat} (ih : LI p l e s m below meth c b L A G cI cJ cB cZ ax am n) (g : Nat) (tm : Int) (wx wm : va_W) (i : Int32) (H : Heap) (locs : List Loc) (ls : Array Slot) (hXI : XI cI cJ cB cZ ax tm g wx) (hMJ : MJ cI cJ cB cZ am tm wm) (hi0 : 0 ≤ i.toInt) (hiL : i.toInt ≤ (L : Int) + 6) (hL : L ≤ 3072) (hm : (L : Int) + 6 - i.toInt < (n : Int) + 1) (hi6 : i.toInt + 6 ≤ (L : Int)) (hP : va_P G cl (wx ++ wm) H) (hD : va_D A (wx ++ wm)) (hS : va_S A s.heap H locs) (hl : lv_has ls 4 [(3, .int i), (2, .ref am), (1, .ref ax), (0, .ref b)]) : W p l e room_1 s m #[Value.ref b] below meth c H locs (1000 + g) (1000000 + fs g) (lw_Z below #[Value.ref b] s) (F0 m 1165 ls []) := by
  obtain ⟨hx, hb, hml, hown, hts⟩ := id hC
  refine lv_aload_n hx hb dL_law_1165 rfl (lv_at hl 2 rfl) ?_
  refine lv_aload_n hx hb dL_law_1166 rfl (lv_at hl 3 rfl) ?_
  refine lv_iload_n hx hb dL_law_1167 rfl (lv_at hl 0 rfl) ?_
  refine lv_iconst (v := 1) hx hb dL_law_1168 (by decide) ?_
  refine lv_iadd hx hb dL_law_1169 ?_
  refine t_i (fun q => q.toInt = i.toInt + 1) (add_i (by show (-2147483648 : Int) ≤ i.toInt + 1; omega) (by show i.toInt + 1 ≤ (2147483647 : Int); omega)) (fun z1 tz1 => ?_)
  refine va_sld hx hb hX hbl hbA hS (i := z1) (vp_in_iff.mpr ⟨by omega, by omega⟩) dL_law_1170 ?_
  refine t_i (fun q => ∀ k : Int, (z1 : Int32).toInt = k → q.toInt = gI xs k) (fun _ hk => gI_of hk) (fun z2 sx_1170 => ?_)
  refine lv_aload_n hx hb dL_law_1171 rfl (lv_at hl 3 rfl) ?_
  refine lv_iload_n hx hb dL_law_1172 rfl (lv_at hl 0 rfl) ?_
  refine lv_iconst (v := 2) hx hb dL_law_1173 (by decide) ?_
  refine lv_iadd hx hb dL_law_1174 ?_
  refine t_i (fun q => q.toInt = i.toInt + 2) (add_i (by show (-2147483648 : Int) ≤ i.toInt + 2; omega) (by show i.toInt + 2 ≤ (2147483647 : Int); omega)) (fun z3 tz3 => ?_)
  refine va_sld hx hb hX hbl hbA hS (i := z3) (vp_in_iff.mpr ⟨by omega, by omega⟩) dL_law_1175 ?_
  refine t_i (fun q => ∀ k : Int, (z3 : Int32).toInt = k → q.toInt = gI xs k) (fun _ hk => gI_of hk) (fun z4 sx_1175 => ?_)
  refine lv_aload_n hx hb dL_law_1176 rfl (lv_at hl 3 rfl) ?_
  refine lv_iload_n hx hb dL_law_1177 rfl (lv_at hl 0 rfl) ?_
  refine lv_iconst (v := 3) hx hb dL_law_1178 (by decide) ?_
  refine lv_iadd hx hb dL_law_1179 ?_
  refine t_i (fun q => q.toInt = i.toInt + 3) (add_i (by show (-2147483648 : Int) ≤ i.toInt + 3; omega) (by show i.toInt + 3 ≤ (2147483647 : Int); omega)) (fun z5 tz5 => ?_)
  refine va_sld hx hb hX hbl hbA hS (i := z5) (vp_in_iff.mpr ⟨by omega, by omega⟩) dL_law_1180 ?_
  refine t_i (fun q => ∀ k : Int, (z5 : Int32).toInt = k → q.toInt = gI xs k) (fun _ hk => gI_of hk) (fun z6 sx_1180 => ?_)
  refine lv_aload_n hx hb dL_law_1181 rfl (lv_at hl 3 rfl) ?_
  refine lv_iload_n hx hb dL_law_1182 rfl (lv_at hl 0 rfl) ?_
  refine lv_iconst (v := 4) hx hb dL_law_1183 (by decide) ?_
  refine lv_iadd hx hb dL_law_1184 ?_
  refine t_i (fun q => q.toInt = i.toInt + 4) (add_i (by show (-2147483648 : Int) ≤ i.toInt + 4; omega) (by show i.toInt + 4 ≤ (2147483647 : Int); omega)) (fun z7 tz7 => ?_)
  refine va_sld hx hb hX hbl hbA hS (i := z7) (vp_in_iff.mpr ⟨by omega, by omega⟩) dL_law_1185 ?_
  refine t_i (fun q => ∀ k : Int, (z7 : Int32).toInt = k → q.toInt = gI xs k) (fun _ hk => gI_of hk) (fun z8 sx_1185 => ?_)
  have JB_1194 : ∀ zb9 : Int32, 0 ≤ zb9.toInt ∧ zb9.toInt ≤ 1 → W p l e room_1 s m #[Value.ref b] below meth c H locs (1000 + g) (1000000 + fs g) (lw_Z below #[Value.ref b] s) (F0 m 1194 ls [.int zb9, .int z6, .int z4, .int z2, .ref ax]) := by
    intro zb9 hzb9
    refine lv_aload_n hx hb dL_law_1194 rfl (lv_at hl 3 rfl) ?_
    refine lv_iload_n hx hb dL_law_1195 rfl (lv_at hl 0 rfl) ?_
    refine lv_iconst (v := 5) hx hb dL_law_1196 (by decide) ?_
    refine lv_iadd hx hb dL_law_1197 ?_
    refine t_i (fun q => q.toInt = i.toInt + 5) (add_i (by show (-2147483648 : Int) ≤ i.toInt + 5; omega) (by show i.toInt + 5 ≤ (2147483647 : Int); omega)) (fun z10 tz10 => ?_)
    refine va_sld hx hb hX hbl hbA hS (i := z10) (vp_in_iff.mpr ⟨by omega, by omega⟩) dL_law_1198 ?_
    refine t_i (fun q => ∀ k : Int, (z10 : Int32).toInt = k → q.toInt = gI xs k) (fun _ hk => gI_of hk) (fun z11 sx_1198 => ?_)
    refine W.know (fun hgr => ?_)
    refine k_LG hC hN hZ hS hA hK hP hD (xw_twice l G cI cJ cB cZ hXI z2 z4 z6 zb9 z11 hzb9) mi_X9_twice in_X9_twice se_X9_twice wm_L_123 9 rfl rfl (hXI.rc) hl.1 rfl rfl (Nat.le_of_ble_eq_true rfl) ⟨(Nat.le_of_ble_eq_true rfl), (Nat.le_of_ble_eq_true rfl)⟩ dL_law_1199 (gr_wG hXI.g11) (fun r12 u12 H locs hp hP hD hS hgn => ?_)
    obtain ⟨g12, w12⟩ := u12
    obtain ⟨hXI12, hgg⟩ := hp
    have hXI12 : XI cI cJ cB cZ ax tm g12 w12 := hXI12
    have hgg : g ≤ g12 := hgg
    refine W.tight (k := 1000 + g12) (n := 1000000 + fs g12) (GR.tr4 hgr hgn hgg) ?_
    have hP : va_P G cl (wm ++ w12) H := hP
    have hD : va_D A (wm ++ w12) := hD
    refine lv_pop hx hb dL_law_1202 rfl ?_
    refine lv_aload_n hx hb dL_law_1203 rfl (lv_at hl 1 rfl) ?_
    refine lv_aload_n hx hb dL_law_1204 rfl (lv_at hl 3 rfl) ?_
    refine lv_iload_n hx hb dL_law_1205 rfl (lv_at hl 0 rfl) ?_
    refine lv_iconst (v := 1) hx hb dL_law_1206 (by decide) ?_
    refine lv_iadd hx hb dL_law_1207 ?_
    refine t_i (fun q => q.toInt = i.toInt + 1) (add_i (by show (-2147483648 : Int) ≤ i.toInt + 1; omega) (by show i.toInt + 1 ≤ (2147483647 : Int); omega)) (fun z13 tz13 => ?_)
    refine va_sld hx hb hX hbl hbA hS (i := z13) (vp_in_iff.mpr ⟨by omega, by omega⟩) dL_law_1208 ?_
    refine t_i (fun q => ∀ k : Int, (z13 : Int32).toInt = k → q.toInt = gI xs k) (fun _ hk => gI_of hk) (fun z14 sx_1208 => ?_)
    refine lv_aload_n hx hb dL_law_1209 rfl (lv_at hl 3 rfl) ?_
    refine lv_iload_n hx hb dL_law_1210 rfl (lv_at hl 0 rfl) ?_
    refine lv_iconst (v := 2) hx hb dL_law_1211 (by decide) ?_
    refine lv_iadd hx hb dL_law_1212 ?_
    refine t_i (fun q => q.toInt = i.toInt + 2) (add_i (by show (-2147483648 : Int) ≤ i.toInt + 2; omega) (by show i.toInt + 2 ≤ (2147483647 : Int); omega)) (fun z15 tz15 => ?_)
    refine va_sld hx hb hX hbl hbA hS (i := z15) (vp_in_iff.mpr ⟨by omega, by omega⟩) dL_law_1213 ?_
    refine t_i (fun q => ∀ k : Int, (z15 : Int32).toInt = k → q.toInt = gI xs k) (fun _ hk => gI_of hk) (fun z16 sx_1213 => ?_)
    refine lv_aload_n hx hb dL_law_1214 rfl (lv_at hl 3 rfl) ?_
    refine lv_iload_n hx hb dL_law_1215 rfl (lv_at hl 0 rfl) ?_
    refine lv_iconst (v := 3) hx hb dL_law_1216 (by decide) ?_
    refine lv_iadd hx hb dL_law_1217 ?_
    refine t_i (fun q => q.toInt = i.toInt + 3) (add_i (by show (-2147483648 : Int) ≤ i.toInt + 3; omega) (by show i.toInt + 3 ≤ (2147483647 : Int); omega)) (fun z17 tz17 => ?_)
    refine va_sld hx hb hX hbl hbA hS (i := z17) (vp_in_iff.mpr ⟨by omega, by omega⟩) dL_law_1218 ?_
    refine t_i (fun q => ∀ k : Int, (z17 : Int32).toInt = k → q.toInt = gI xs k) (fun _ hk => gI_of hk) (fun z18 sx_1218 => ?_)
    refine lv_aload_n hx hb dL_law_1219 rfl (lv_at hl 3 rfl) ?_
    refine lv_iload_n hx hb dL_law_1220 rfl (lv_at hl 0 rfl) ?_
    refine lv_iconst (v := 4) hx hb dL_law_1221 (by decide) ?_
    refine lv_iadd hx hb dL_law_1222 ?_
    refine t_i (fun q => q.toInt = i.toInt + 4) (add_i (by show (-2147483648 : Int) ≤ i.toInt + 4; omega) (by show i.toInt + 4 ≤ (2147483647 : Int); omega)) (fun z19 tz19 => ?_)
    refine va_sld hx hb hX hbl hbA hS (i := z19) (vp_in_iff.mpr ⟨by omega, by omega⟩) dL_law_1223 ?_
    refine t_i (fun q => ∀ k : Int, (z19 : Int32).toInt = k → q.toInt = gI xs k) (fun _ hk => gI_of hk) (fun z20 sx_1223 => ?_)
    have JB_1232 : ∀ zb21 : Int32, 0 ≤ zb21.toInt ∧ zb21.toInt ≤ 1 → W p l e room_1 s m #[Value.ref b] below meth c H locs (1000 + g12) (1000000 + fs g12) (lw_Z below #[Value.ref b] s) (F0 m 1232 ls [.int zb21, .int z18, .int z16, .int z14, .ref am]) := by
      intro zb21 hzb21
      refine lv_aload_n hx hb dL_law_1232 rfl (lv_at hl 3 rfl) ?_
      refine lv_iload_n hx hb dL_law_1233 rfl (lv_at hl 0 rfl) ?_
      refine lv_iconst (v := 5) hx hb dL_law_1234 (by decide) ?_
      refine lv_iadd hx hb dL_law_1235 ?_
      refine t_i (fun q => q.toInt = i.toInt + 5) (add_i (by show (-2147483648 : Int) ≤ i.toInt + 5; omega) (by show i.toInt + 5 ≤ (2147483647 : Int); omega)) (fun z22 tz22 => ?_)
      refine va_sld hx hb hX hbl hbA hS (i := z22) (vp_in_iff.mpr ⟨by omega, by omega⟩) dL_law_1236 ?_
      refine t_i (fun q => ∀ k : Int, (z22 : Int32).toInt = k → q.toInt = gI xs k) (fun _ hk => gI_of hk) (fun z23 sx_1236 => ?_)
      refine k_L hC hN hZ hS hA hK hP hD (mw_twice l G cI cJ cB cZ hMJ z14 z16 z18 zb21 z23 hzb21) mi_X10_twice in_X10_twice se_X10_twice wm_L_127 10 rfl rfl (hMJ.rc) hl.1 rfl rfl (Nat.le_of_ble_eq_true rfl) ⟨(Nat.le_of_ble_eq_true rfl), (Nat.le_of_ble_eq_true rfl)⟩ dL_law_1237 ⟨rfl, rfl⟩ (gr_w0 hXI12.g11) (fun r24 u24 H locs hp hP hD hS => ?_)
      have hMJ24 : MJ cI cJ cB cZ am tm u24 := hp
      have hP : va_P G cl (w12 ++ u24) H := hP
      have hD : va_D A (w12 ++ u24) := hD
      refine lv_pop hx hb dL_law_1240 rfl ?_
      refine lv_goto (tgt := 1428) hx hb dL_law_1241 (by decide) ?_
      obtain ⟨z25, ez25⟩ : ∃ q : Int32, q = i + Int32.ofInt 6 := ⟨_, rfl⟩
      have tz25 : z25.toInt = i.toInt + 6 := by rw [ez25]; exact add_i (y := 6) (by have p_ := i_lo i; show _ ≤ _ + (6 : Int); omega) (by have q_ := i_hi i; show _ + (6 : Int) ≤ _; omega)
      refine lv_iinc (v := z25) (lv' := [(3, .int z25), (2, .ref am), (1, .ref ax), (0, .ref b)]) hx hb dL_law_1428 hl (k := 0) rfl ez25.symm (by decide) rfl (fun ls hl => ?_)
      refine lv_goto (tgt := 18) hx hb dL_law_1431 (by decide) ?_
      exact ih g12 tm w12 u24 z25 H locs ls hXI12 hMJ24 (by omega) (by omega) (by omega) hP hD hS (lv_sub hl [0, 1, 2, 3] rfl)
    refine lv_if_eq (tgt := 1231) hx hb dL_law_1224 (by decide) (fun _ => ?_) (fun _ => ?_)
    · refine lv_iconst (v := 0) hx hb dL_law_1231 (by decide) ?_
      exact JB_1232 0 (by decide)
    · refine lv_iconst (v := 1) hx hb dL_law_1227 (by decide) ?_
      refine lv_goto (tgt := 1232) hx hb dL_law_1228 (by decide) ?_
      exact JB_1232 1 (by decide)
  refine lv_if_eq (tgt := 1193) hx hb dL_law_1186 (by decide) (fun _ => ?_) (fun _ => ?_)
  · refine lv_iconst (v := 0) hx hb dL_law_1193 (by decide) ?_
    exact JB_1194 0 (by decide)
  · refine lv_iconst (v := 1) hx hb dL_law_1189 (by decide) ?_
    refine lv_goto (tgt := 1194) hx hb dL_law_1190 (by decide) ?_
    exact JB_1194 1 (by decide)
set_option maxRecDepth 100000 in
theorem wm_L_128 : Cond.methodLink RL 128 yX9_ratio ∈ gw := gm (List.mem_of_getElem? (i := 1221) (by decide +kernel)) rfl
set_option maxRecDepth 100000 in
theorem mi_X9_ratio : MI yX9_ratio cX9_ratio 9 (some .int) 4 := ⟨gm (List.mem_of_getElem? (i := 1224) rfl) rfl, gm (List.mem_of_getElem? (i := 112) (by decide +kernel)) rfl, by decide, by decide, by decide +kernel⟩
set_option maxRecDepth 100000 in
theorem in_X9_ratio : Cond.instanceMethod yX9_ratio ∈ gw := gm (List.mem_of_getElem? (i := 1222) (by decide +kernel)) rfl
set_option maxRecDepth 100000 in
theorem se_X9_ratio : Cond.selects yX9_ratio.cls yX9_ratio yX9_ratio ∈ gw := gm (List.mem_of_getElem? (i := 1223) (by decide +kernel)) rfl
set_option maxRecDepth 100000 in
theorem wm_L_132 : Cond.methodLink RL 132 yX10_ratio ∈ gw := gm (List.mem_of_getElem? (i := 1837) (by decide +kernel)) rfl
set_option maxRecDepth 100000 in
theorem mi_X10_ratio : MI yX10_ratio cX10_ratio 6 (some .int) 4 := ⟨gm (List.mem_of_getElem? (i := 1840) rfl) rfl, gm (List.mem_of_getElem? (i := 124) (by decide +kernel)) rfl, by decide, by decide, by decide +kernel⟩
set_option maxRecDepth 100000 in
theorem in_X10_ratio : Cond.instanceMethod yX10_ratio ∈ gw := gm (List.mem_of_getElem? (i := 1838) (by decide +kernel)) rfl
set_option maxRecDepth 100000 in
theorem se_X10_ratio : Cond.selects yX10_ratio.cls yX10_ratio yX10_ratio ∈ gw := gm (List.mem_of_getElem? (i := 1839) (by decide +kernel)) rfl
set_option maxHeartbeats 8000000 in
set_option maxRecDepth 100000 in
theorem law_ratio {p : Program} {l : Launch} {e : Env} {s : State} {m : MethodId} {below : List Frame} {meth : Method} {c : Code} {b L ax am : Nat} {xs : Nat → Int32} {A : Nat → Prop} {G : va_G} {cI cJ cB cZ : ClassId} (hC : CallFix p m c code 4 s #[Value.ref b] gw R_law) (hr : meth.sig.returnType = ret) (hlk : meth.locks = false) (hN : NW s) (hZ : SW A s s.heap) (hK : va_K G cl (TY cI cJ cB cZ) s) (hX : va_X b L xs s s.heap) (hbl : b < s.heap.size) (hA : ∀ q, s.heap.size ≤ q → A q) (hbA : ¬ A b) (hfo : ∀ q, A q → s.heap.size ≤ q) {n : Nat} (ih : LI p l e s m below meth c b L A G cI cJ cB cZ ax am n) (g : Nat) (tm : Int) (wx wm : va_W) (i : Int32) (H : Heap) (locs : List Loc) (ls : Array Slot) (hXI : XI cI cJ cB cZ ax tm g wx) (hMJ : MJ cI cJ cB cZ am tm wm) (hi0 : 0 ≤ i.toInt) (hiL : i.toInt ≤ (L : Int) + 6) (hL : L ≤ 3072) (hm : (L : Int) + 6 - i.toInt < (n : Int) + 1) (hi6 : i.toInt + 6 ≤ (L : Int)) (hP : va_P G cl (wx ++ wm) H) (hD : va_D A (wx ++ wm)) (hS : va_S A s.heap H locs) (hl : lv_has ls 4 [(3, .int i), (2, .ref am), (1, .ref ax), (0, .ref b)]) : W p l e room_1 s m #[Value.ref b] below meth c H locs (1000 + g) (1000000 + fs g) (lw_Z below #[Value.ref b] s) (F0 m 1244 ls []) := by
  obtain ⟨hx, hb, hml, hown, hts⟩ := id hC
  refine lv_aload_n hx hb dL_law_1244 rfl (lv_at hl 2 rfl) ?_
  refine lv_aload_n hx hb dL_law_1245 rfl (lv_at hl 3 rfl) ?_
  refine lv_iload_n hx hb dL_law_1246 rfl (lv_at hl 0 rfl) ?_
  refine lv_iconst (v := 1) hx hb dL_law_1247 (by decide) ?_
  refine lv_iadd hx hb dL_law_1248 ?_
  refine t_i (fun q => q.toInt = i.toInt + 1) (add_i (by show (-2147483648 : Int) ≤ i.toInt + 1; omega) (by show i.toInt + 1 ≤ (2147483647 : Int); omega)) (fun z1 tz1 => ?_)
  refine va_sld hx hb hX hbl hbA hS (i := z1) (vp_in_iff.mpr ⟨by omega, by omega⟩) dL_law_1249 ?_
  refine t_i (fun q => ∀ k : Int, (z1 : Int32).toInt = k → q.toInt = gI xs k) (fun _ hk => gI_of hk) (fun z2 sx_1249 => ?_)
  refine lv_aload_n hx hb dL_law_1250 rfl (lv_at hl 3 rfl) ?_
  refine lv_iload_n hx hb dL_law_1251 rfl (lv_at hl 0 rfl) ?_
  refine lv_iconst (v := 2) hx hb dL_law_1252 (by decide) ?_
  refine lv_iadd hx hb dL_law_1253 ?_
  refine t_i (fun q => q.toInt = i.toInt + 2) (add_i (by show (-2147483648 : Int) ≤ i.toInt + 2; omega) (by show i.toInt + 2 ≤ (2147483647 : Int); omega)) (fun z3 tz3 => ?_)
  refine va_sld hx hb hX hbl hbA hS (i := z3) (vp_in_iff.mpr ⟨by omega, by omega⟩) dL_law_1254 ?_
  refine t_i (fun q => ∀ k : Int, (z3 : Int32).toInt = k → q.toInt = gI xs k) (fun _ hk => gI_of hk) (fun z4 sx_1254 => ?_)
  refine lv_aload_n hx hb dL_law_1255 rfl (lv_at hl 3 rfl) ?_
  refine lv_iload_n hx hb dL_law_1256 rfl (lv_at hl 0 rfl) ?_
  refine lv_iconst (v := 3) hx hb dL_law_1257 (by decide) ?_
  refine lv_iadd hx hb dL_law_1258 ?_
  refine t_i (fun q => q.toInt = i.toInt + 3) (add_i (by show (-2147483648 : Int) ≤ i.toInt + 3; omega) (by show i.toInt + 3 ≤ (2147483647 : Int); omega)) (fun z5 tz5 => ?_)
  refine va_sld hx hb hX hbl hbA hS (i := z5) (vp_in_iff.mpr ⟨by omega, by omega⟩) dL_law_1259 ?_
  refine t_i (fun q => ∀ k : Int, (z5 : Int32).toInt = k → q.toInt = gI xs k) (fun _ hk => gI_of hk) (fun z6 sx_1259 => ?_)
  have JB_1268 : ∀ zb7 : Int32, 0 ≤ zb7.toInt ∧ zb7.toInt ≤ 1 → W p l e room_1 s m #[Value.ref b] below meth c H locs (1000 + g) (1000000 + fs g) (lw_Z below #[Value.ref b] s) (F0 m 1268 ls [.int zb7, .int z4, .int z2, .ref ax]) := by
    intro zb7 hzb7
    refine lv_aload_n hx hb dL_law_1268 rfl (lv_at hl 3 rfl) ?_
    refine lv_iload_n hx hb dL_law_1269 rfl (lv_at hl 0 rfl) ?_
    refine lv_iconst (v := 4) hx hb dL_law_1270 (by decide) ?_
    refine lv_iadd hx hb dL_law_1271 ?_
    refine t_i (fun q => q.toInt = i.toInt + 4) (add_i (by show (-2147483648 : Int) ≤ i.toInt + 4; omega) (by show i.toInt + 4 ≤ (2147483647 : Int); omega)) (fun z8 tz8 => ?_)
    refine va_sld hx hb hX hbl hbA hS (i := z8) (vp_in_iff.mpr ⟨by omega, by omega⟩) dL_law_1272 ?_
    refine t_i (fun q => ∀ k : Int, (z8 : Int32).toInt = k → q.toInt = gI xs k) (fun _ hk => gI_of hk) (fun z9 sx_1272 => ?_)
    refine W.know (fun hgr => ?_)
    refine k_LG hC hN hZ hS hA hK hP hD (xw_ratio l G cI cJ cB cZ hXI z2 z4 zb7 z9 hzb7) mi_X9_ratio in_X9_ratio se_X9_ratio wm_L_128 9 rfl rfl (hXI.rc) hl.1 rfl rfl (Nat.le_of_ble_eq_true rfl) ⟨(Nat.le_of_ble_eq_true rfl), (Nat.le_of_ble_eq_true rfl)⟩ dL_law_1273 (gr_wG hXI.g11) (fun r10 u10 H locs hp hP hD hS hgn => ?_)
    obtain ⟨g10, w10⟩ := u10
    obtain ⟨hXI10, hgg⟩ := hp
    have hXI10 : XI cI cJ cB cZ ax tm g10 w10 := hXI10
    have hgg : g ≤ g10 := hgg
    refine W.tight (k := 1000 + g10) (n := 1000000 + fs g10) (GR.tr4 hgr hgn hgg) ?_
    have hP : va_P G cl (wm ++ w10) H := hP
    have hD : va_D A (wm ++ w10) := hD
    refine lv_pop hx hb dL_law_1276 rfl ?_
    refine lv_aload_n hx hb dL_law_1277 rfl (lv_at hl 1 rfl) ?_
    refine lv_aload_n hx hb dL_law_1278 rfl (lv_at hl 3 rfl) ?_
    refine lv_iload_n hx hb dL_law_1279 rfl (lv_at hl 0 rfl) ?_
    refine lv_iconst (v := 1) hx hb dL_law_1280 (by decide) ?_
    refine lv_iadd hx hb dL_law_1281 ?_
    refine t_i (fun q => q.toInt = i.toInt + 1) (add_i (by show (-2147483648 : Int) ≤ i.toInt + 1; omega) (by show i.toInt + 1 ≤ (2147483647 : Int); omega)) (fun z11 tz11 => ?_)
    refine va_sld hx hb hX hbl hbA hS (i := z11) (vp_in_iff.mpr ⟨by omega, by omega⟩) dL_law_1282 ?_
    refine t_i (fun q => ∀ k : Int, (z11 : Int32).toInt = k → q.toInt = gI xs k) (fun _ hk => gI_of hk) (fun z12 sx_1282 => ?_)
    refine lv_aload_n hx hb dL_law_1283 rfl (lv_at hl 3 rfl) ?_
    refine lv_iload_n hx hb dL_law_1284 rfl (lv_at hl 0 rfl) ?_
    refine lv_iconst (v := 2) hx hb dL_law_1285 (by decide) ?_
    refine lv_iadd hx hb dL_law_1286 ?_
    refine t_i (fun q => q.toInt = i.toInt + 2) (add_i (by show (-2147483648 : Int) ≤ i.toInt + 2; omega) (by show i.toInt + 2 ≤ (2147483647 : Int); omega)) (fun z13 tz13 => ?_)
    refine va_sld hx hb hX hbl hbA hS (i := z13) (vp_in_iff.mpr ⟨by omega, by omega⟩) dL_law_1287 ?_
    refine t_i (fun q => ∀ k : Int, (z13 : Int32).toInt = k → q.toInt = gI xs k) (fun _ hk => gI_of hk) (fun z14 sx_1287 => ?_)
    refine lv_aload_n hx hb dL_law_1288 rfl (lv_at hl 3 rfl) ?_
    refine lv_iload_n hx hb dL_law_1289 rfl (lv_at hl 0 rfl) ?_
    refine lv_iconst (v := 3) hx hb dL_law_1290 (by decide) ?_
    refine lv_iadd hx hb dL_law_1291 ?_
    refine t_i (fun q => q.toInt = i.toInt + 3) (add_i (by show (-2147483648 : Int) ≤ i.toInt + 3; omega) (by show i.toInt + 3 ≤ (2147483647 : Int); omega)) (fun z15 tz15 => ?_)
    refine va_sld hx hb hX hbl hbA hS (i := z15) (vp_in_iff.mpr ⟨by omega, by omega⟩) dL_law_1292 ?_
    refine t_i (fun q => ∀ k : Int, (z15 : Int32).toInt = k → q.toInt = gI xs k) (fun _ hk => gI_of hk) (fun z16 sx_1292 => ?_)
    have JB_1301 : ∀ zb17 : Int32, 0 ≤ zb17.toInt ∧ zb17.toInt ≤ 1 → W p l e room_1 s m #[Value.ref b] below meth c H locs (1000 + g10) (1000000 + fs g10) (lw_Z below #[Value.ref b] s) (F0 m 1301 ls [.int zb17, .int z14, .int z12, .ref am]) := by
      intro zb17 hzb17
      refine lv_aload_n hx hb dL_law_1301 rfl (lv_at hl 3 rfl) ?_
      refine lv_iload_n hx hb dL_law_1302 rfl (lv_at hl 0 rfl) ?_
      refine lv_iconst (v := 4) hx hb dL_law_1303 (by decide) ?_
      refine lv_iadd hx hb dL_law_1304 ?_
      refine t_i (fun q => q.toInt = i.toInt + 4) (add_i (by show (-2147483648 : Int) ≤ i.toInt + 4; omega) (by show i.toInt + 4 ≤ (2147483647 : Int); omega)) (fun z18 tz18 => ?_)
      refine va_sld hx hb hX hbl hbA hS (i := z18) (vp_in_iff.mpr ⟨by omega, by omega⟩) dL_law_1305 ?_
      refine t_i (fun q => ∀ k : Int, (z18 : Int32).toInt = k → q.toInt = gI xs k) (fun _ hk => gI_of hk) (fun z19 sx_1305 => ?_)
      refine k_L hC hN hZ hS hA hK hP hD (mw_ratio l G cI cJ cB cZ hMJ z12 z14 zb17 z19 hzb17) mi_X10_ratio in_X10_ratio se_X10_ratio wm_L_132 10 rfl rfl (hMJ.rc) hl.1 rfl rfl (Nat.le_of_ble_eq_true rfl) ⟨(Nat.le_of_ble_eq_true rfl), (Nat.le_of_ble_eq_true rfl)⟩ dL_law_1306 ⟨rfl, rfl⟩ (gr_w0 hXI10.g11) (fun r20 u20 H locs hp hP hD hS => ?_)
      have hMJ20 : MJ cI cJ cB cZ am tm u20 := hp
      have hP : va_P G cl (w10 ++ u20) H := hP
      have hD : va_D A (w10 ++ u20) := hD
      refine lv_pop hx hb dL_law_1309 rfl ?_
      refine lv_goto (tgt := 1428) hx hb dL_law_1310 (by decide) ?_
      obtain ⟨z21, ez21⟩ : ∃ q : Int32, q = i + Int32.ofInt 6 := ⟨_, rfl⟩
      have tz21 : z21.toInt = i.toInt + 6 := by rw [ez21]; exact add_i (y := 6) (by have p_ := i_lo i; show _ ≤ _ + (6 : Int); omega) (by have q_ := i_hi i; show _ + (6 : Int) ≤ _; omega)
      refine lv_iinc (v := z21) (lv' := [(3, .int z21), (2, .ref am), (1, .ref ax), (0, .ref b)]) hx hb dL_law_1428 hl (k := 0) rfl ez21.symm (by decide) rfl (fun ls hl => ?_)
      refine lv_goto (tgt := 18) hx hb dL_law_1431 (by decide) ?_
      exact ih g10 tm w10 u20 z21 H locs ls hXI10 hMJ20 (by omega) (by omega) (by omega) hP hD hS (lv_sub hl [0, 1, 2, 3] rfl)
    refine lv_if_eq (tgt := 1300) hx hb dL_law_1293 (by decide) (fun _ => ?_) (fun _ => ?_)
    · refine lv_iconst (v := 0) hx hb dL_law_1300 (by decide) ?_
      exact JB_1301 0 (by decide)
    · refine lv_iconst (v := 1) hx hb dL_law_1296 (by decide) ?_
      refine lv_goto (tgt := 1301) hx hb dL_law_1297 (by decide) ?_
      exact JB_1301 1 (by decide)
  refine lv_if_eq (tgt := 1267) hx hb dL_law_1260 (by decide) (fun _ => ?_) (fun _ => ?_)
  · refine lv_iconst (v := 0) hx hb dL_law_1267 (by decide) ?_
    exact JB_1268 0 (by decide)
  · refine lv_iconst (v := 1) hx hb dL_law_1263 (by decide) ?_
    refine lv_goto (tgt := 1268) hx hb dL_law_1264 (by decide) ?_
    exact JB_1268 1 (by decide)

set_option maxHeartbeats 8000000 in
set_option maxRecDepth 100000 in
theorem law_skip {p : Program} {l : Launch} {e : Env} {s : State} {m : MethodId} {below : List Frame} {meth : Method} {c : Code} {b L ax am : Nat} {xs : Nat → Int32} {A : Nat → Prop} {G : va_G} {cI cJ cB cZ : ClassId} (hC : CallFix p m c code 4 s #[Value.ref b] gw R_law) (hr : meth.sig.returnType = ret) (hlk : meth.locks = false) (hN : NW s) (hZ : SW A s s.heap) (hK : va_K G cl (TY cI cJ cB cZ) s) (hX : va_X b L xs s s.heap) (hbl : b < s.heap.size) (hA : ∀ q, s.heap.size ≤ q → A q) (hbA : ¬ A b) (hfo : ∀ q, A q → s.heap.size ≤ q) {n : Nat} (ih : LI p l e s m below meth c b L A G cI cJ cB cZ ax am n) (g : Nat) (tm : Int) (wx wm : va_W) (i : Int32) (H : Heap) (locs : List Loc) (ls : Array Slot) (hXI : XI cI cJ cB cZ ax tm g wx) (hMJ : MJ cI cJ cB cZ am tm wm) (hi0 : 0 ≤ i.toInt) (hiL : i.toInt ≤ (L : Int) + 6) (hL : L ≤ 3072) (hm : (L : Int) + 6 - i.toInt < (n : Int) + 1) (hi6 : i.toInt + 6 ≤ (L : Int)) (hP : va_P G cl (wx ++ wm) H) (hD : va_D A (wx ++ wm)) (hS : va_S A s.heap H locs) (hl : lv_has ls 4 [(3, .int i), (2, .ref am), (1, .ref ax), (0, .ref b)]) : W p l e room_1 s m #[Value.ref b] below meth c H locs (1000 + g) (1000000 + fs g) (lw_Z below #[Value.ref b] s) (F0 m 1428 ls []) := by
  obtain ⟨hx, hb, hml, hown, hts⟩ := id hC
  obtain ⟨z1, ez1⟩ : ∃ q : Int32, q = i + Int32.ofInt 6 := ⟨_, rfl⟩
  have tz1 : z1.toInt = i.toInt + 6 := by rw [ez1]; exact add_i (y := 6) (by have p_ := i_lo i; show _ ≤ _ + (6 : Int); omega) (by have q_ := i_hi i; show _ + (6 : Int) ≤ _; omega)
  refine lv_iinc (v := z1) (lv' := [(3, .int z1), (2, .ref am), (1, .ref ax), (0, .ref b)]) hx hb dL_law_1428 hl (k := 0) rfl ez1.symm (by decide) rfl (fun ls hl => ?_)
  refine lv_goto (tgt := 18) hx hb dL_law_1431 (by decide) ?_
  exact ih g tm wx wm z1 H locs ls hXI hMJ (by omega) (by omega) (by omega) hP hD hS (lv_sub hl [0, 1, 2, 3] rfl)
set_option maxRecDepth 100000 in
theorem wm_L_18 : Cond.methodLink RL 18 yX9_end ∈ gw := gm (List.mem_of_getElem? (i := 575) (by decide +kernel)) rfl
set_option maxRecDepth 100000 in
theorem mi_X9_end : MI yX9_end cX9_end 2 (some .int) 1 := ⟨gm (List.mem_of_getElem? (i := 578) rfl) rfl, gm (List.mem_of_getElem? (i := 112) (by decide +kernel)) rfl, by decide, by decide, by decide +kernel⟩
set_option maxRecDepth 100000 in
theorem in_X9_end : Cond.instanceMethod yX9_end ∈ gw := gm (List.mem_of_getElem? (i := 576) (by decide +kernel)) rfl
set_option maxRecDepth 100000 in
theorem se_X9_end : Cond.selects yX9_end.cls yX9_end yX9_end ∈ gw := gm (List.mem_of_getElem? (i := 577) (by decide +kernel)) rfl
set_option maxRecDepth 100000 in
theorem wm_L_22 : Cond.methodLink RL 22 yX10_end ∈ gw := gm (List.mem_of_getElem? (i := 1862) (by decide +kernel)) rfl
set_option maxRecDepth 100000 in
theorem mi_X10_end : MI yX10_end cX10_end 2 (some .int) 1 := ⟨gm (List.mem_of_getElem? (i := 1865) rfl) rfl, gm (List.mem_of_getElem? (i := 124) (by decide +kernel)) rfl, by decide, by decide, by decide +kernel⟩
set_option maxRecDepth 100000 in
theorem in_X10_end : Cond.instanceMethod yX10_end ∈ gw := gm (List.mem_of_getElem? (i := 1863) (by decide +kernel)) rfl
set_option maxRecDepth 100000 in
theorem se_X10_end : Cond.selects yX10_end.cls yX10_end yX10_end ∈ gw := gm (List.mem_of_getElem? (i := 1864) (by decide +kernel)) rfl
set_option maxHeartbeats 8000000 in
set_option maxRecDepth 100000 in
theorem law_end {p : Program} {l : Launch} {e : Env} {s : State} {m : MethodId} {below : List Frame} {meth : Method} {c : Code} {b L ax am : Nat} {xs : Nat → Int32} {A : Nat → Prop} {G : va_G} {cI cJ cB cZ : ClassId} (hC : CallFix p m c code 4 s #[Value.ref b] gw R_law) (hr : meth.sig.returnType = ret) (hlk : meth.locks = false) (hN : NW s) (hZ : SW A s s.heap) (hK : va_K G cl (TY cI cJ cB cZ) s) (hX : va_X b L xs s s.heap) (hbl : b < s.heap.size) (hA : ∀ q, s.heap.size ≤ q → A q) (hbA : ¬ A b) (hfo : ∀ q, A q → s.heap.size ≤ q) {n : Nat} (ih : LI p l e s m below meth c b L A G cI cJ cB cZ ax am n) (g : Nat) (tm : Int) (wx wm : va_W) (i : Int32) (H : Heap) (locs : List Loc) (ls : Array Slot) (hXI : XI cI cJ cB cZ ax tm g wx) (hMJ : MJ cI cJ cB cZ am tm wm) (hi0 : 0 ≤ i.toInt) (hiL : i.toInt ≤ (L : Int) + 6) (hL : L ≤ 3072) (hm : (L : Int) + 6 - i.toInt < (n : Int) + 1) (hi6 : i.toInt + 6 ≤ (L : Int)) (hP : va_P G cl (wx ++ wm) H) (hD : va_D A (wx ++ wm)) (hS : va_S A s.heap H locs) (hl : lv_has ls 4 [(3, .int i), (2, .ref am), (1, .ref ax), (0, .ref b)]) : W p l e room_1 s m #[Value.ref b] below meth c H locs (1000 + g) (1000000 + fs g) (lw_Z below #[Value.ref b] s) (F0 m 231 ls []) := by
  obtain ⟨hx, hb, hml, hown, hts⟩ := id hC
  refine lv_aload_n hx hb dL_law_231 rfl (lv_at hl 2 rfl) ?_
  refine lv_aload_n hx hb dL_law_232 rfl (lv_at hl 3 rfl) ?_
  refine lv_iload_n hx hb dL_law_233 rfl (lv_at hl 0 rfl) ?_
  refine lv_iconst (v := 1) hx hb dL_law_234 (by decide) ?_
  refine lv_iadd hx hb dL_law_235 ?_
  refine t_i (fun q => q.toInt = i.toInt + 1) (add_i (by show (-2147483648 : Int) ≤ i.toInt + 1; omega) (by show i.toInt + 1 ≤ (2147483647 : Int); omega)) (fun z1 tz1 => ?_)
  refine va_sld hx hb hX hbl hbA hS (i := z1) (vp_in_iff.mpr ⟨by omega, by omega⟩) dL_law_236 ?_
  refine t_i (fun q => ∀ k : Int, (z1 : Int32).toInt = k → q.toInt = gI xs k) (fun _ hk => gI_of hk) (fun z2 sx_236 => ?_)
  refine k_L hC hN hZ hS hA hK hP hD (xw_end l G cI cJ cB cZ hXI z2) mi_X9_end in_X9_end se_X9_end wm_L_18 9 rfl rfl (hXI.rc) hl.1 rfl rfl (Nat.le_of_ble_eq_true rfl) ⟨(Nat.le_of_ble_eq_true rfl), (Nat.le_of_ble_eq_true rfl)⟩ dL_law_237 ⟨rfl, rfl⟩ (gr_w0 hXI.g11) (fun r3 u3 H locs hp hP hD hS => ?_)
  have hXI3 : XI cI cJ cB cZ ax tm g u3 := hp
  have hP : va_P G cl (wm ++ u3) H := hP
  have hD : va_D A (wm ++ u3) := hD
  refine lv_pop hx hb dL_law_240 rfl ?_
  refine lv_aload_n hx hb dL_law_241 rfl (lv_at hl 1 rfl) ?_
  refine lv_aload_n hx hb dL_law_242 rfl (lv_at hl 3 rfl) ?_
  refine lv_iload_n hx hb dL_law_243 rfl (lv_at hl 0 rfl) ?_
  refine lv_iconst (v := 1) hx hb dL_law_244 (by decide) ?_
  refine lv_iadd hx hb dL_law_245 ?_
  refine t_i (fun q => q.toInt = i.toInt + 1) (add_i (by show (-2147483648 : Int) ≤ i.toInt + 1; omega) (by show i.toInt + 1 ≤ (2147483647 : Int); omega)) (fun z4 tz4 => ?_)
  refine va_sld hx hb hX hbl hbA hS (i := z4) (vp_in_iff.mpr ⟨by omega, by omega⟩) dL_law_246 ?_
  refine t_i (fun q => ∀ k : Int, (z4 : Int32).toInt = k → q.toInt = gI xs k) (fun _ hk => gI_of hk) (fun z5 sx_246 => ?_)
  refine k_L hC hN hZ hS hA hK hP hD (mw_end l G cI cJ cB cZ hMJ z5) mi_X10_end in_X10_end se_X10_end wm_L_22 10 rfl rfl (hMJ.rc) hl.1 rfl rfl (Nat.le_of_ble_eq_true rfl) ⟨(Nat.le_of_ble_eq_true rfl), (Nat.le_of_ble_eq_true rfl)⟩ dL_law_247 ⟨rfl, rfl⟩ (gr_w0 hXI3.g11) (fun r6 u6 H locs hp hP hD hS => ?_)
  have hMJ6 : MJ cI cJ cB cZ am tm u6 := hp
  have hP : va_P G cl (u3 ++ u6) H := hP
  have hD : va_D A (u3 ++ u6) := hD
  refine lv_pop hx hb dL_law_250 rfl ?_
  refine lv_goto (tgt := 1428) hx hb dL_law_251 (by decide) ?_
  obtain ⟨z7, ez7⟩ : ∃ q : Int32, q = i + Int32.ofInt 6 := ⟨_, rfl⟩
  have tz7 : z7.toInt = i.toInt + 6 := by rw [ez7]; exact add_i (y := 6) (by have p_ := i_lo i; show _ ≤ _ + (6 : Int); omega) (by have q_ := i_hi i; show _ + (6 : Int) ≤ _; omega)
  refine lv_iinc (v := z7) (lv' := [(3, .int z7), (2, .ref am), (1, .ref ax), (0, .ref b)]) hx hb dL_law_1428 hl (k := 0) rfl ez7.symm (by decide) rfl (fun ls hl => ?_)
  refine lv_goto (tgt := 18) hx hb dL_law_1431 (by decide) ?_
  exact ih g tm u3 u6 z7 H locs ls hXI3 hMJ6 (by omega) (by omega) (by omega) hP hD hS (lv_sub hl [0, 1, 2, 3] rfl)

theorem dX8_init_0 : decode cX8_init 0 = .ok (.aload_n 0, 1) := by decide +kernel
theorem dX8_init_1 : decode cX8_init 1 = .ok (.invokespecial 3, 3) := by decide +kernel
set_option maxRecDepth 100000 in
theorem wm_X8_3 : Cond.methodLink RX8 3 Lib.objectInit ∈ gw := gm (List.mem_of_getElem? (i := 146) (by decide +kernel)) rfl
set_option maxRecDepth 100000 in
theorem in_OBJ : Cond.instanceMethod Lib.objectInit ∈ gw := gm (List.mem_of_getElem? (i := 133) (by decide +kernel)) rfl
set_option maxRecDepth 100000 in
theorem co_OBJ : Cond.code Lib.objectInit ⟨#[0xb1]⟩ 1 none ∈ gw := gm (List.mem_of_getElem? (i := 134) (by decide +kernel)) rfl
theorem dX8_init_4 : decode cX8_init 4 = .ok (.aload_n 0, 1) := by decide +kernel
theorem dX8_init_5 : decode cX8_init 5 = .ok (.iconst 0, 1) := by decide +kernel
theorem dX8_init_6 : decode cX8_init 6 = .ok (.putfield 9, 3) := by decide +kernel
set_option maxRecDepth 100000 in
theorem wf_X8_9 : Cond.fieldLink RX8 9 "StoneTrust$Weighings" "size" "I" ∈ gw := gm (List.mem_of_getElem? (i := 163) (by decide +kernel)) rfl
theorem dX8_init_9 : decode cX8_init 9 = .ok (.iconst 0, 1) := by decide +kernel
theorem dX8_init_10 : decode cX8_init 10 = .ok (.iload_n 1, 1) := by decide +kernel
theorem dX8_init_11 : decode cX8_init 11 = .ok (.invokestatic 15, 3) := by decide +kernel
set_option maxRecDepth 100000 in
theorem wm_X8_15 : Cond.methodLink RX8 15 Lib.Math.max.name ∈ gw := gm (List.mem_of_getElem? (i := 147) (by decide +kernel)) rfl
set_option maxRecDepth 100000 in
theorem st_Mmax : Cond.static Lib.Math.max.name ∈ gw := gm (List.mem_of_getElem? (i := 148) (by decide +kernel)) rfl
set_option maxRecDepth 100000 in
theorem ini_Math : Cond.initialized "java/lang/Math" ∈ gw := gm (List.mem_of_getElem? (i := 115) (by decide +kernel)) rfl
set_option maxRecDepth 100000 in
theorem co_Mmax : Cond.code Lib.Math.max.name Lib.Math.max.code 2 (some .int) ∈ gw := gm (List.mem_of_getElem? (i := 149) rfl) rfl
theorem dX8_init_14 : decode cX8_init 14 = .ok (.istore_n 2, 1) := by decide +kernel
theorem dX8_init_15 : decode cX8_init 15 = .ok (.aload_n 0, 1) := by decide +kernel
theorem dX8_init_16 : decode cX8_init 16 = .ok (.iload_n 2, 1) := by decide +kernel
theorem dX8_init_17 : decode cX8_init 17 = .ok (.newarray .int, 2) := by decide +kernel
set_option maxRecDepth 100000 in
theorem warr_I : Cond.arrayClass .int ∈ gw := gm (List.mem_of_getElem? (i := 185) (by decide +kernel)) rfl
theorem dX8_init_19 : decode cX8_init 19 = .ok (.putfield 21, 3) := by decide +kernel
set_option maxRecDepth 100000 in
theorem wf_X8_21 : Cond.fieldLink RX8 21 "StoneTrust$Weighings" "left" "[I" ∈ gw := gm (List.mem_of_getElem? (i := 150) (by decide +kernel)) rfl
theorem dX8_init_22 : decode cX8_init 22 = .ok (.aload_n 0, 1) := by decide +kernel
theorem dX8_init_23 : decode cX8_init 23 = .ok (.iload_n 2, 1) := by decide +kernel
theorem dX8_init_24 : decode cX8_init 24 = .ok (.newarray .int, 2) := by decide +kernel
theorem dX8_init_26 : decode cX8_init 26 = .ok (.putfield 25, 3) := by decide +kernel
set_option maxRecDepth 100000 in
theorem wf_X8_25 : Cond.fieldLink RX8 25 "StoneTrust$Weighings" "right" "[I" ∈ gw := gm (List.mem_of_getElem? (i := 152) (by decide +kernel)) rfl
theorem dX8_init_29 : decode cX8_init 29 = .ok (.aload_n 0, 1) := by decide +kernel
theorem dX8_init_30 : decode cX8_init 30 = .ok (.iload_n 2, 1) := by decide +kernel
theorem dX8_init_31 : decode cX8_init 31 = .ok (.newarray .int, 2) := by decide +kernel
theorem dX8_init_33 : decode cX8_init 33 = .ok (.putfield 28, 3) := by decide +kernel
set_option maxRecDepth 100000 in
theorem wf_X8_28 : Cond.fieldLink RX8 28 "StoneTrust$Weighings" "year" "[I" ∈ gw := gm (List.mem_of_getElem? (i := 154) (by decide +kernel)) rfl
theorem dX8_init_36 : decode cX8_init 36 = .ok (.aload_n 0, 1) := by decide +kernel
theorem dX8_init_37 : decode cX8_init 37 = .ok (.iload_n 2, 1) := by decide +kernel
theorem dX8_init_38 : decode cX8_init 38 = .ok (.newarray .int, 2) := by decide +kernel
theorem dX8_init_40 : decode cX8_init 40 = .ok (.putfield 31, 3) := by decide +kernel
set_option maxRecDepth 100000 in
theorem wf_X8_31 : Cond.fieldLink RX8 31 "StoneTrust$Weighings" "trader" "[I" ∈ gw := gm (List.mem_of_getElem? (i := 156) (by decide +kernel)) rfl
theorem dX8_init_43 : decode cX8_init 43 = .ok (.aload_n 0, 1) := by decide +kernel
theorem dX8_init_44 : decode cX8_init 44 = .ok (.iload_n 2, 1) := by decide +kernel
theorem dX8_init_45 : decode cX8_init 45 = .ok (.newarray .int, 2) := by decide +kernel
theorem dX8_init_47 : decode cX8_init 47 = .ok (.putfield 34, 3) := by decide +kernel
set_option maxRecDepth 100000 in
theorem wf_X8_34 : Cond.fieldLink RX8 34 "StoneTrust$Weighings" "how" "[I" ∈ gw := gm (List.mem_of_getElem? (i := 159) (by decide +kernel)) rfl
theorem dX8_init_50 : decode cX8_init 50 = .ok (.aload_n 0, 1) := by decide +kernel
theorem dX8_init_51 : decode cX8_init 51 = .ok (.iload_n 2, 1) := by decide +kernel
theorem dX8_init_52 : decode cX8_init 52 = .ok (.newarray .int, 2) := by decide +kernel
theorem dX8_init_54 : decode cX8_init 54 = .ok (.putfield 37, 3) := by decide +kernel
set_option maxRecDepth 100000 in
theorem wf_X8_37 : Cond.fieldLink RX8 37 "StoneTrust$Weighings" "told" "[I" ∈ gw := gm (List.mem_of_getElem? (i := 161) (by decide +kernel)) rfl
theorem dX8_init_57 : decode cX8_init 57 = .ok (.aload_n 0, 1) := by decide +kernel
theorem dX8_init_58 : decode cX8_init 58 = .ok (.iload_n 2, 1) := by decide +kernel
theorem dX8_init_59 : decode cX8_init 59 = .ok (.newarray .int, 2) := by decide +kernel
theorem dX8_init_61 : decode cX8_init 61 = .ok (.putfield 40, 3) := by decide +kernel
set_option maxRecDepth 100000 in
theorem wf_X8_40 : Cond.fieldLink RX8 40 "StoneTrust$Weighings" "untold" "[I" ∈ gw := gm (List.mem_of_getElem? (i := 162) (by decide +kernel)) rfl
theorem dX8_init_64 : decode cX8_init 64 = .ok (.return_, 1) := by decide +kernel
set_option maxHeartbeats 4000000 in
set_option maxRecDepth 100000 in
theorem c1_X8_init (l : Launch) (G : va_G) (cI cJ cB cZ : ClassId) (a0 : Nat) : Con l G (TY cI cJ cB cZ) yX8_init cX8_init 3 none ({ frames := 1, cells := 7, slots := 112, locals := 21 } : Room) [.ref a0, .int 16] [(a0, .inr (8, [.null, .null, .null, .null, .null, .null, .null, .int 0]))] (QV G (TY cI cJ cB cZ) (fun u : (Nat → Nat) => True) (fun u : (Nat → Nat) => [(a0, .inr (8, [.ref (u 0), .ref (u 1), .ref (u 2), .ref (u 3), .ref (u 4), .ref (u 5), .ref (u 6), .int 0]))])) := by
  refine k_met (by decide) (Nat.le_of_ble_eq_true rfl) ?_
  intro p e s m below meth c A ls hC hr hlk hnm hN hK hA hP hD hS hl
  have hl : lv_has ls 3 [(0, .ref a0), (1, .int 16)] := hl
  obtain ⟨hx, hb, hml, hown, hts⟩ := id hC
  refine lv_aload_n hx hb dX8_init_0 rfl (lv_at hl 0 rfl) ?_
  refine k_obj hC wm_X8_3 in_OBJ co_OBJ hl.1 dX8_init_1 (Nat.le_of_ble_eq_true rfl) (Nat.le_of_ble_eq_true rfl) ?_
  refine lv_aload_n hx hb dX8_init_4 rfl (lv_at hl 0 rfl) ?_
  refine lv_iconst (v := 0) hx hb dX8_init_5 (by decide) ?_
  refine k_put hC hK hP hD hS iX8 tyX8_ok nmX8 0 7 wf_X8_9 rfl (by decide) rfl rfl rfl rfl (Nat.le_of_ble_eq_true rfl) dX8_init_6 (fun H locs hP hD hS => ?_)
  have hP : va_P G cl [(a0, .inr (8, [.null, .null, .null, .null, .null, .null, .null, .int 0]))] H := hP
  have hD : va_D A [(a0, .inr (8, [.null, .null, .null, .null, .null, .null, .null, .int 0]))] := hD
  refine lv_iconst (v := 0) hx hb dX8_init_9 (by decide) ?_
  refine lv_iload_n hx hb dX8_init_10 rfl (lv_at hl 1 rfl) ?_
  refine va_mmax hx hb (hml.trans hl.1.symm) hown (hts _ wm_X8_15) (hts _ st_Mmax) (hts _ ini_Math) (hts _ co_Mmax) (Nat.le_of_ble_eq_true rfl) (Nat.le_of_ble_eq_true rfl) (Nat.le_of_ble_eq_true rfl) (Nat.le_of_ble_eq_true rfl) dX8_init_11 ?_
  refine k_i 16 (by decide +kernel) ?_
  refine lv_istore_n (lv' := [(2, .int 16), (0, .ref a0), (1, .int 16)]) hx hb dX8_init_14 rfl hl (by decide) rfl (fun ls hl => ?_)
  refine lv_aload_n hx hb dX8_init_15 rfl (lv_at hl 1 rfl) ?_
  refine lv_iload_n hx hb dX8_init_16 rfl (lv_at hl 0 rfl) ?_
  refine k_newa (atype := .int) (a0 := (16, .inl (fun _ => 0))) hx hb (hts _ warr_I) rfl 0 rfl (fun h => h) hK hP hD hS hA (fun _ => rfl) (by decide +kernel) (by decide +kernel) (by decide) (Nat.le_of_ble_eq_true rfl) (Nat.le_of_ble_eq_true rfl) dX8_init_17 (fun q1 H hP hD hS => ?_)
  have hP : va_P G cl [(a0, .inr (8, [.null, .null, .null, .null, .null, .null, .null, .int 0])), (q1, .inl (cI, 16, .inl (fun _ => 0)))] H := hP
  have hD : va_D A [(a0, .inr (8, [.null, .null, .null, .null, .null, .null, .null, .int 0])), (q1, .inl (cI, 16, .inl (fun _ => 0)))] := hD
  refine k_putF hC hnm hK hP hD hS iX8 tyX8_ok nmX8 0 0 wf_X8_21 rfl (by decide) rfl rfl rfl rfl rfl (Nat.le_of_ble_eq_true rfl) dX8_init_19 (fun H locs hP hD hS => ?_)
  have hP : va_P G cl [(a0, .inr (8, [.ref q1, .null, .null, .null, .null, .null, .null, .int 0])), (q1, .inl (cI, 16, .inl (fun _ => 0)))] H := hP
  have hD : va_D A [(a0, .inr (8, [.ref q1, .null, .null, .null, .null, .null, .null, .int 0])), (q1, .inl (cI, 16, .inl (fun _ => 0)))] := hD
  refine lv_aload_n hx hb dX8_init_22 rfl (lv_at hl 1 rfl) ?_
  refine lv_iload_n hx hb dX8_init_23 rfl (lv_at hl 0 rfl) ?_
  refine k_newa (atype := .int) (a0 := (16, .inl (fun _ => 0))) hx hb (hts _ warr_I) rfl 0 rfl (fun h => h) hK hP hD hS hA (fun _ => rfl) (by decide +kernel) (by decide +kernel) (by decide) (Nat.le_of_ble_eq_true rfl) (Nat.le_of_ble_eq_true rfl) dX8_init_24 (fun q2 H hP hD hS => ?_)
  have hP : va_P G cl [(a0, .inr (8, [.ref q1, .null, .null, .null, .null, .null, .null, .int 0])), (q1, .inl (cI, 16, .inl (fun _ => 0))), (q2, .inl (cI, 16, .inl (fun _ => 0)))] H := hP
  have hD : va_D A [(a0, .inr (8, [.ref q1, .null, .null, .null, .null, .null, .null, .int 0])), (q1, .inl (cI, 16, .inl (fun _ => 0))), (q2, .inl (cI, 16, .inl (fun _ => 0)))] := hD
  refine k_putF hC hnm hK hP hD hS iX8 tyX8_ok nmX8 0 1 wf_X8_25 rfl (by decide) rfl rfl rfl rfl rfl (Nat.le_of_ble_eq_true rfl) dX8_init_26 (fun H locs hP hD hS => ?_)
  have hP : va_P G cl [(a0, .inr (8, [.ref q1, .ref q2, .null, .null, .null, .null, .null, .int 0])), (q1, .inl (cI, 16, .inl (fun _ => 0))), (q2, .inl (cI, 16, .inl (fun _ => 0)))] H := hP
  have hD : va_D A [(a0, .inr (8, [.ref q1, .ref q2, .null, .null, .null, .null, .null, .int 0])), (q1, .inl (cI, 16, .inl (fun _ => 0))), (q2, .inl (cI, 16, .inl (fun _ => 0)))] := hD
  refine lv_aload_n hx hb dX8_init_29 rfl (lv_at hl 1 rfl) ?_
  refine lv_iload_n hx hb dX8_init_30 rfl (lv_at hl 0 rfl) ?_
  refine k_newa (atype := .int) (a0 := (16, .inl (fun _ => 0))) hx hb (hts _ warr_I) rfl 0 rfl (fun h => h) hK hP hD hS hA (fun _ => rfl) (by decide +kernel) (by decide +kernel) (by decide) (Nat.le_of_ble_eq_true rfl) (Nat.le_of_ble_eq_true rfl) dX8_init_31 (fun q3 H hP hD hS => ?_)
  have hP : va_P G cl [(a0, .inr (8, [.ref q1, .ref q2, .null, .null, .null, .null, .null, .int 0])), (q1, .inl (cI, 16, .inl (fun _ => 0))), (q2, .inl (cI, 16, .inl (fun _ => 0))), (q3, .inl (cI, 16, .inl (fun _ => 0)))] H := hP
  have hD : va_D A [(a0, .inr (8, [.ref q1, .ref q2, .null, .null, .null, .null, .null, .int 0])), (q1, .inl (cI, 16, .inl (fun _ => 0))), (q2, .inl (cI, 16, .inl (fun _ => 0))), (q3, .inl (cI, 16, .inl (fun _ => 0)))] := hD
  refine k_putF hC hnm hK hP hD hS iX8 tyX8_ok nmX8 0 2 wf_X8_28 rfl (by decide) rfl rfl rfl rfl rfl (Nat.le_of_ble_eq_true rfl) dX8_init_33 (fun H locs hP hD hS => ?_)
  have hP : va_P G cl [(a0, .inr (8, [.ref q1, .ref q2, .ref q3, .null, .null, .null, .null, .int 0])), (q1, .inl (cI, 16, .inl (fun _ => 0))), (q2, .inl (cI, 16, .inl (fun _ => 0))), (q3, .inl (cI, 16, .inl (fun _ => 0)))] H := hP
  have hD : va_D A [(a0, .inr (8, [.ref q1, .ref q2, .ref q3, .null, .null, .null, .null, .int 0])), (q1, .inl (cI, 16, .inl (fun _ => 0))), (q2, .inl (cI, 16, .inl (fun _ => 0))), (q3, .inl (cI, 16, .inl (fun _ => 0)))] := hD
  refine lv_aload_n hx hb dX8_init_36 rfl (lv_at hl 1 rfl) ?_
  refine lv_iload_n hx hb dX8_init_37 rfl (lv_at hl 0 rfl) ?_
  refine k_newa (atype := .int) (a0 := (16, .inl (fun _ => 0))) hx hb (hts _ warr_I) rfl 0 rfl (fun h => h) hK hP hD hS hA (fun _ => rfl) (by decide +kernel) (by decide +kernel) (by decide) (Nat.le_of_ble_eq_true rfl) (Nat.le_of_ble_eq_true rfl) dX8_init_38 (fun q4 H hP hD hS => ?_)
  have hP : va_P G cl [(a0, .inr (8, [.ref q1, .ref q2, .ref q3, .null, .null, .null, .null, .int 0])), (q1, .inl (cI, 16, .inl (fun _ => 0))), (q2, .inl (cI, 16, .inl (fun _ => 0))), (q3, .inl (cI, 16, .inl (fun _ => 0))), (q4, .inl (cI, 16, .inl (fun _ => 0)))] H := hP
  have hD : va_D A [(a0, .inr (8, [.ref q1, .ref q2, .ref q3, .null, .null, .null, .null, .int 0])), (q1, .inl (cI, 16, .inl (fun _ => 0))), (q2, .inl (cI, 16, .inl (fun _ => 0))), (q3, .inl (cI, 16, .inl (fun _ => 0))), (q4, .inl (cI, 16, .inl (fun _ => 0)))] := hD
  refine k_putF hC hnm hK hP hD hS iX8 tyX8_ok nmX8 0 3 wf_X8_31 rfl (by decide) rfl rfl rfl rfl rfl (Nat.le_of_ble_eq_true rfl) dX8_init_40 (fun H locs hP hD hS => ?_)
  have hP : va_P G cl [(a0, .inr (8, [.ref q1, .ref q2, .ref q3, .ref q4, .null, .null, .null, .int 0])), (q1, .inl (cI, 16, .inl (fun _ => 0))), (q2, .inl (cI, 16, .inl (fun _ => 0))), (q3, .inl (cI, 16, .inl (fun _ => 0))), (q4, .inl (cI, 16, .inl (fun _ => 0)))] H := hP
  have hD : va_D A [(a0, .inr (8, [.ref q1, .ref q2, .ref q3, .ref q4, .null, .null, .null, .int 0])), (q1, .inl (cI, 16, .inl (fun _ => 0))), (q2, .inl (cI, 16, .inl (fun _ => 0))), (q3, .inl (cI, 16, .inl (fun _ => 0))), (q4, .inl (cI, 16, .inl (fun _ => 0)))] := hD
  refine lv_aload_n hx hb dX8_init_43 rfl (lv_at hl 1 rfl) ?_
  refine lv_iload_n hx hb dX8_init_44 rfl (lv_at hl 0 rfl) ?_
  refine k_newa (atype := .int) (a0 := (16, .inl (fun _ => 0))) hx hb (hts _ warr_I) rfl 0 rfl (fun h => h) hK hP hD hS hA (fun _ => rfl) (by decide +kernel) (by decide +kernel) (by decide) (Nat.le_of_ble_eq_true rfl) (Nat.le_of_ble_eq_true rfl) dX8_init_45 (fun q5 H hP hD hS => ?_)
  have hP : va_P G cl [(a0, .inr (8, [.ref q1, .ref q2, .ref q3, .ref q4, .null, .null, .null, .int 0])), (q1, .inl (cI, 16, .inl (fun _ => 0))), (q2, .inl (cI, 16, .inl (fun _ => 0))), (q3, .inl (cI, 16, .inl (fun _ => 0))), (q4, .inl (cI, 16, .inl (fun _ => 0))), (q5, .inl (cI, 16, .inl (fun _ => 0)))] H := hP
  have hD : va_D A [(a0, .inr (8, [.ref q1, .ref q2, .ref q3, .ref q4, .null, .null, .null, .int 0])), (q1, .inl (cI, 16, .inl (fun _ => 0))), (q2, .inl (cI, 16, .inl (fun _ => 0))), (q3, .inl (cI, 16, .inl (fun _ => 0))), (q4, .inl (cI, 16, .inl (fun _ => 0))), (q5, .inl (cI, 16, .inl (fun _ => 0)))] := hD
  refine k_putF hC hnm hK hP hD hS iX8 tyX8_ok nmX8 0 4 wf_X8_34 rfl (by decide) rfl rfl rfl rfl rfl (Nat.le_of_ble_eq_true rfl) dX8_init_47 (fun H locs hP hD hS => ?_)
  have hP : va_P G cl [(a0, .inr (8, [.ref q1, .ref q2, .ref q3, .ref q4, .ref q5, .null, .null, .int 0])), (q1, .inl (cI, 16, .inl (fun _ => 0))), (q2, .inl (cI, 16, .inl (fun _ => 0))), (q3, .inl (cI, 16, .inl (fun _ => 0))), (q4, .inl (cI, 16, .inl (fun _ => 0))), (q5, .inl (cI, 16, .inl (fun _ => 0)))] H := hP
  have hD : va_D A [(a0, .inr (8, [.ref q1, .ref q2, .ref q3, .ref q4, .ref q5, .null, .null, .int 0])), (q1, .inl (cI, 16, .inl (fun _ => 0))), (q2, .inl (cI, 16, .inl (fun _ => 0))), (q3, .inl (cI, 16, .inl (fun _ => 0))), (q4, .inl (cI, 16, .inl (fun _ => 0))), (q5, .inl (cI, 16, .inl (fun _ => 0)))] := hD
  refine lv_aload_n hx hb dX8_init_50 rfl (lv_at hl 1 rfl) ?_
  refine lv_iload_n hx hb dX8_init_51 rfl (lv_at hl 0 rfl) ?_
  refine k_newa (atype := .int) (a0 := (16, .inl (fun _ => 0))) hx hb (hts _ warr_I) rfl 0 rfl (fun h => h) hK hP hD hS hA (fun _ => rfl) (by decide +kernel) (by decide +kernel) (by decide) (Nat.le_of_ble_eq_true rfl) (Nat.le_of_ble_eq_true rfl) dX8_init_52 (fun q6 H hP hD hS => ?_)
  have hP : va_P G cl [(a0, .inr (8, [.ref q1, .ref q2, .ref q3, .ref q4, .ref q5, .null, .null, .int 0])), (q1, .inl (cI, 16, .inl (fun _ => 0))), (q2, .inl (cI, 16, .inl (fun _ => 0))), (q3, .inl (cI, 16, .inl (fun _ => 0))), (q4, .inl (cI, 16, .inl (fun _ => 0))), (q5, .inl (cI, 16, .inl (fun _ => 0))), (q6, .inl (cI, 16, .inl (fun _ => 0)))] H := hP
  have hD : va_D A [(a0, .inr (8, [.ref q1, .ref q2, .ref q3, .ref q4, .ref q5, .null, .null, .int 0])), (q1, .inl (cI, 16, .inl (fun _ => 0))), (q2, .inl (cI, 16, .inl (fun _ => 0))), (q3, .inl (cI, 16, .inl (fun _ => 0))), (q4, .inl (cI, 16, .inl (fun _ => 0))), (q5, .inl (cI, 16, .inl (fun _ => 0))), (q6, .inl (cI, 16, .inl (fun _ => 0)))] := hD
  refine k_putF hC hnm hK hP hD hS iX8 tyX8_ok nmX8 0 5 wf_X8_37 rfl (by decide) rfl rfl rfl rfl rfl (Nat.le_of_ble_eq_true rfl) dX8_init_54 (fun H locs hP hD hS => ?_)
  have hP : va_P G cl [(a0, .inr (8, [.ref q1, .ref q2, .ref q3, .ref q4, .ref q5, .ref q6, .null, .int 0])), (q1, .inl (cI, 16, .inl (fun _ => 0))), (q2, .inl (cI, 16, .inl (fun _ => 0))), (q3, .inl (cI, 16, .inl (fun _ => 0))), (q4, .inl (cI, 16, .inl (fun _ => 0))), (q5, .inl (cI, 16, .inl (fun _ => 0))), (q6, .inl (cI, 16, .inl (fun _ => 0)))] H := hP
  have hD : va_D A [(a0, .inr (8, [.ref q1, .ref q2, .ref q3, .ref q4, .ref q5, .ref q6, .null, .int 0])), (q1, .inl (cI, 16, .inl (fun _ => 0))), (q2, .inl (cI, 16, .inl (fun _ => 0))), (q3, .inl (cI, 16, .inl (fun _ => 0))), (q4, .inl (cI, 16, .inl (fun _ => 0))), (q5, .inl (cI, 16, .inl (fun _ => 0))), (q6, .inl (cI, 16, .inl (fun _ => 0)))] := hD
  refine lv_aload_n hx hb dX8_init_57 rfl (lv_at hl 1 rfl) ?_
  refine lv_iload_n hx hb dX8_init_58 rfl (lv_at hl 0 rfl) ?_
  refine k_newa (atype := .int) (a0 := (16, .inl (fun _ => 0))) hx hb (hts _ warr_I) rfl 0 rfl (fun h => h) hK hP hD hS hA (fun _ => rfl) (by decide +kernel) (by decide +kernel) (by decide) (Nat.le_of_ble_eq_true rfl) (Nat.le_of_ble_eq_true rfl) dX8_init_59 (fun q7 H hP hD hS => ?_)
  have hP : va_P G cl [(a0, .inr (8, [.ref q1, .ref q2, .ref q3, .ref q4, .ref q5, .ref q6, .null, .int 0])), (q1, .inl (cI, 16, .inl (fun _ => 0))), (q2, .inl (cI, 16, .inl (fun _ => 0))), (q3, .inl (cI, 16, .inl (fun _ => 0))), (q4, .inl (cI, 16, .inl (fun _ => 0))), (q5, .inl (cI, 16, .inl (fun _ => 0))), (q6, .inl (cI, 16, .inl (fun _ => 0))), (q7, .inl (cI, 16, .inl (fun _ => 0)))] H := hP
  have hD : va_D A [(a0, .inr (8, [.ref q1, .ref q2, .ref q3, .ref q4, .ref q5, .ref q6, .null, .int 0])), (q1, .inl (cI, 16, .inl (fun _ => 0))), (q2, .inl (cI, 16, .inl (fun _ => 0))), (q3, .inl (cI, 16, .inl (fun _ => 0))), (q4, .inl (cI, 16, .inl (fun _ => 0))), (q5, .inl (cI, 16, .inl (fun _ => 0))), (q6, .inl (cI, 16, .inl (fun _ => 0))), (q7, .inl (cI, 16, .inl (fun _ => 0)))] := hD
  refine k_putF hC hnm hK hP hD hS iX8 tyX8_ok nmX8 0 6 wf_X8_40 rfl (by decide) rfl rfl rfl rfl rfl (Nat.le_of_ble_eq_true rfl) dX8_init_61 (fun H locs hP hD hS => ?_)
  have hP : va_P G cl [(a0, .inr (8, [.ref q1, .ref q2, .ref q3, .ref q4, .ref q5, .ref q6, .ref q7, .int 0])), (q1, .inl (cI, 16, .inl (fun _ => 0))), (q2, .inl (cI, 16, .inl (fun _ => 0))), (q3, .inl (cI, 16, .inl (fun _ => 0))), (q4, .inl (cI, 16, .inl (fun _ => 0))), (q5, .inl (cI, 16, .inl (fun _ => 0))), (q6, .inl (cI, 16, .inl (fun _ => 0))), (q7, .inl (cI, 16, .inl (fun _ => 0)))] H := hP
  have hD : va_D A [(a0, .inr (8, [.ref q1, .ref q2, .ref q3, .ref q4, .ref q5, .ref q6, .ref q7, .int 0])), (q1, .inl (cI, 16, .inl (fun _ => 0))), (q2, .inl (cI, 16, .inl (fun _ => 0))), (q3, .inl (cI, 16, .inl (fun _ => 0))), (q4, .inl (cI, 16, .inl (fun _ => 0))), (q5, .inl (cI, 16, .inl (fun _ => 0))), (q6, .inl (cI, 16, .inl (fun _ => 0))), (q7, .inl (cI, 16, .inl (fun _ => 0)))] := hD
  exact k_vret hC hr hlk hK hP hD hS (fun k => [q1, q2, q3, q4, q5, q6, q7].getD k 0) [0] rfl (by decide) trivial (Nat.le_of_ble_eq_true rfl) (Nat.le_of_ble_eq_true rfl) dX8_init_64
theorem dX3_init_0 : decode cX3_init 0 = .ok (.aload_n 0, 1) := by decide +kernel
theorem dX3_init_1 : decode cX3_init 1 = .ok (.invokespecial 3, 3) := by decide +kernel
set_option maxRecDepth 100000 in
theorem wm_X3_3 : Cond.methodLink RX3 3 Lib.objectInit ∈ gw := gm (List.mem_of_getElem? (i := 192) (by decide +kernel)) rfl
theorem dX3_init_4 : decode cX3_init 4 = .ok (.aload_n 0, 1) := by decide +kernel
theorem dX3_init_5 : decode cX3_init 5 = .ok (.bipush 10, 2) := by decide +kernel
theorem dX3_init_7 : decode cX3_init 7 = .ok (.newarray .int, 2) := by decide +kernel
theorem dX3_init_9 : decode cX3_init 9 = .ok (.putfield 9, 3) := by decide +kernel
set_option maxRecDepth 100000 in
theorem wf_X3_9 : Cond.fieldLink RX3 9 "StoneTrust$Sales" "stones" "[I" ∈ gw := gm (List.mem_of_getElem? (i := 193) (by decide +kernel)) rfl
theorem dX3_init_12 : decode cX3_init 12 = .ok (.aload_n 0, 1) := by decide +kernel
theorem dX3_init_13 : decode cX3_init 13 = .ok (.bipush 10, 2) := by decide +kernel
theorem dX3_init_15 : decode cX3_init 15 = .ok (.newarray .int, 2) := by decide +kernel
theorem dX3_init_17 : decode cX3_init 17 = .ok (.putfield 15, 3) := by decide +kernel
set_option maxRecDepth 100000 in
theorem wf_X3_15 : Cond.fieldLink RX3 15 "StoneTrust$Sales" "year" "[I" ∈ gw := gm (List.mem_of_getElem? (i := 195) (by decide +kernel)) rfl
theorem dX3_init_20 : decode cX3_init 20 = .ok (.aload_n 0, 1) := by decide +kernel
theorem dX3_init_21 : decode cX3_init 21 = .ok (.bipush 10, 2) := by decide +kernel
theorem dX3_init_23 : decode cX3_init 23 = .ok (.newarray .int, 2) := by decide +kernel
theorem dX3_init_25 : decode cX3_init 25 = .ok (.putfield 18, 3) := by decide +kernel
set_option maxRecDepth 100000 in
theorem wf_X3_18 : Cond.fieldLink RX3 18 "StoneTrust$Sales" "trader" "[I" ∈ gw := gm (List.mem_of_getElem? (i := 197) (by decide +kernel)) rfl
theorem dX3_init_28 : decode cX3_init 28 = .ok (.aload_n 0, 1) := by decide +kernel
theorem dX3_init_29 : decode cX3_init 29 = .ok (.bipush 10, 2) := by decide +kernel
theorem dX3_init_31 : decode cX3_init 31 = .ok (.newarray .int, 2) := by decide +kernel
theorem dX3_init_33 : decode cX3_init 33 = .ok (.putfield 21, 3) := by decide +kernel
set_option maxRecDepth 100000 in
theorem wf_X3_21 : Cond.fieldLink RX3 21 "StoneTrust$Sales" "price" "[I" ∈ gw := gm (List.mem_of_getElem? (i := 199) (by decide +kernel)) rfl
theorem dX3_init_36 : decode cX3_init 36 = .ok (.aload_n 0, 1) := by decide +kernel
theorem dX3_init_37 : decode cX3_init 37 = .ok (.iconst 0, 1) := by decide +kernel
theorem dX3_init_38 : decode cX3_init 38 = .ok (.putfield 24, 3) := by decide +kernel
set_option maxRecDepth 100000 in
theorem wf_X3_24 : Cond.fieldLink RX3 24 "StoneTrust$Sales" "size" "I" ∈ gw := gm (List.mem_of_getElem? (i := 201) (by decide +kernel)) rfl
theorem dX3_init_41 : decode cX3_init 41 = .ok (.return_, 1) := by decide +kernel
set_option maxHeartbeats 4000000 in
set_option maxRecDepth 100000 in
theorem c2_X3_init (l : Launch) (G : va_G) (cI cJ cB cZ : ClassId) (a0 : Nat) : Con l G (TY cI cJ cB cZ) yX3_init cX3_init 1 none ({ frames := 1, cells := 4, slots := 40, locals := 20 } : Room) [.ref a0] [(a0, .inr (3, [.null, .null, .null, .null, .int 0]))] (QV G (TY cI cJ cB cZ) (fun u : (Nat → Nat) => True) (fun u : (Nat → Nat) => [(a0, .inr (3, [.ref (u 0), .ref (u 1), .ref (u 2), .ref (u 3), .int 0]))])) := by
  refine k_met (by decide) (Nat.le_of_ble_eq_true rfl) ?_
  intro p e s m below meth c A ls hC hr hlk hnm hN hK hA hP hD hS hl
  have hl : lv_has ls 1 [(0, .ref a0)] := hl
  obtain ⟨hx, hb, hml, hown, hts⟩ := id hC
  refine lv_aload_n hx hb dX3_init_0 rfl (lv_at hl 0 rfl) ?_
  refine k_obj hC wm_X3_3 in_OBJ co_OBJ hl.1 dX3_init_1 (Nat.le_of_ble_eq_true rfl) (Nat.le_of_ble_eq_true rfl) ?_
  refine lv_aload_n hx hb dX3_init_4 rfl (lv_at hl 0 rfl) ?_
  refine lv_bipush (v := 10) hx hb dX3_init_5 (by decide) ?_
  refine k_newa (atype := .int) (a0 := (10, .inl (fun _ => 0))) hx hb (hts _ warr_I) rfl 0 rfl (fun h => h) hK hP hD hS hA (fun _ => rfl) (by decide +kernel) (by decide +kernel) (by decide) (Nat.le_of_ble_eq_true rfl) (Nat.le_of_ble_eq_true rfl) dX3_init_7 (fun q1 H hP hD hS => ?_)
  have hP : va_P G cl [(a0, .inr (3, [.null, .null, .null, .null, .int 0])), (q1, .inl (cI, 10, .inl (fun _ => 0)))] H := hP
  have hD : va_D A [(a0, .inr (3, [.null, .null, .null, .null, .int 0])), (q1, .inl (cI, 10, .inl (fun _ => 0)))] := hD
  refine k_putF hC hnm hK hP hD hS iX3 tyX3_ok nmX3 0 0 wf_X3_9 rfl (by decide) rfl rfl rfl rfl rfl (Nat.le_of_ble_eq_true rfl) dX3_init_9 (fun H locs hP hD hS => ?_)
  have hP : va_P G cl [(a0, .inr (3, [.ref q1, .null, .null, .null, .int 0])), (q1, .inl (cI, 10, .inl (fun _ => 0)))] H := hP
  have hD : va_D A [(a0, .inr (3, [.ref q1, .null, .null, .null, .int 0])), (q1, .inl (cI, 10, .inl (fun _ => 0)))] := hD
  refine lv_aload_n hx hb dX3_init_12 rfl (lv_at hl 0 rfl) ?_
  refine lv_bipush (v := 10) hx hb dX3_init_13 (by decide) ?_
  refine k_newa (atype := .int) (a0 := (10, .inl (fun _ => 0))) hx hb (hts _ warr_I) rfl 0 rfl (fun h => h) hK hP hD hS hA (fun _ => rfl) (by decide +kernel) (by decide +kernel) (by decide) (Nat.le_of_ble_eq_true rfl) (Nat.le_of_ble_eq_true rfl) dX3_init_15 (fun q2 H hP hD hS => ?_)
  have hP : va_P G cl [(a0, .inr (3, [.ref q1, .null, .null, .null, .int 0])), (q1, .inl (cI, 10, .inl (fun _ => 0))), (q2, .inl (cI, 10, .inl (fun _ => 0)))] H := hP
  have hD : va_D A [(a0, .inr (3, [.ref q1, .null, .null, .null, .int 0])), (q1, .inl (cI, 10, .inl (fun _ => 0))), (q2, .inl (cI, 10, .inl (fun _ => 0)))] := hD
  refine k_putF hC hnm hK hP hD hS iX3 tyX3_ok nmX3 0 1 wf_X3_15 rfl (by decide) rfl rfl rfl rfl rfl (Nat.le_of_ble_eq_true rfl) dX3_init_17 (fun H locs hP hD hS => ?_)
  have hP : va_P G cl [(a0, .inr (3, [.ref q1, .ref q2, .null, .null, .int 0])), (q1, .inl (cI, 10, .inl (fun _ => 0))), (q2, .inl (cI, 10, .inl (fun _ => 0)))] H := hP
  have hD : va_D A [(a0, .inr (3, [.ref q1, .ref q2, .null, .null, .int 0])), (q1, .inl (cI, 10, .inl (fun _ => 0))), (q2, .inl (cI, 10, .inl (fun _ => 0)))] := hD
  refine lv_aload_n hx hb dX3_init_20 rfl (lv_at hl 0 rfl) ?_
  refine lv_bipush (v := 10) hx hb dX3_init_21 (by decide) ?_
  refine k_newa (atype := .int) (a0 := (10, .inl (fun _ => 0))) hx hb (hts _ warr_I) rfl 0 rfl (fun h => h) hK hP hD hS hA (fun _ => rfl) (by decide +kernel) (by decide +kernel) (by decide) (Nat.le_of_ble_eq_true rfl) (Nat.le_of_ble_eq_true rfl) dX3_init_23 (fun q3 H hP hD hS => ?_)
  have hP : va_P G cl [(a0, .inr (3, [.ref q1, .ref q2, .null, .null, .int 0])), (q1, .inl (cI, 10, .inl (fun _ => 0))), (q2, .inl (cI, 10, .inl (fun _ => 0))), (q3, .inl (cI, 10, .inl (fun _ => 0)))] H := hP
  have hD : va_D A [(a0, .inr (3, [.ref q1, .ref q2, .null, .null, .int 0])), (q1, .inl (cI, 10, .inl (fun _ => 0))), (q2, .inl (cI, 10, .inl (fun _ => 0))), (q3, .inl (cI, 10, .inl (fun _ => 0)))] := hD
  refine k_putF hC hnm hK hP hD hS iX3 tyX3_ok nmX3 0 2 wf_X3_18 rfl (by decide) rfl rfl rfl rfl rfl (Nat.le_of_ble_eq_true rfl) dX3_init_25 (fun H locs hP hD hS => ?_)
  have hP : va_P G cl [(a0, .inr (3, [.ref q1, .ref q2, .ref q3, .null, .int 0])), (q1, .inl (cI, 10, .inl (fun _ => 0))), (q2, .inl (cI, 10, .inl (fun _ => 0))), (q3, .inl (cI, 10, .inl (fun _ => 0)))] H := hP
  have hD : va_D A [(a0, .inr (3, [.ref q1, .ref q2, .ref q3, .null, .int 0])), (q1, .inl (cI, 10, .inl (fun _ => 0))), (q2, .inl (cI, 10, .inl (fun _ => 0))), (q3, .inl (cI, 10, .inl (fun _ => 0)))] := hD
  refine lv_aload_n hx hb dX3_init_28 rfl (lv_at hl 0 rfl) ?_
  refine lv_bipush (v := 10) hx hb dX3_init_29 (by decide) ?_
  refine k_newa (atype := .int) (a0 := (10, .inl (fun _ => 0))) hx hb (hts _ warr_I) rfl 0 rfl (fun h => h) hK hP hD hS hA (fun _ => rfl) (by decide +kernel) (by decide +kernel) (by decide) (Nat.le_of_ble_eq_true rfl) (Nat.le_of_ble_eq_true rfl) dX3_init_31 (fun q4 H hP hD hS => ?_)
  have hP : va_P G cl [(a0, .inr (3, [.ref q1, .ref q2, .ref q3, .null, .int 0])), (q1, .inl (cI, 10, .inl (fun _ => 0))), (q2, .inl (cI, 10, .inl (fun _ => 0))), (q3, .inl (cI, 10, .inl (fun _ => 0))), (q4, .inl (cI, 10, .inl (fun _ => 0)))] H := hP
  have hD : va_D A [(a0, .inr (3, [.ref q1, .ref q2, .ref q3, .null, .int 0])), (q1, .inl (cI, 10, .inl (fun _ => 0))), (q2, .inl (cI, 10, .inl (fun _ => 0))), (q3, .inl (cI, 10, .inl (fun _ => 0))), (q4, .inl (cI, 10, .inl (fun _ => 0)))] := hD
  refine k_putF hC hnm hK hP hD hS iX3 tyX3_ok nmX3 0 3 wf_X3_21 rfl (by decide) rfl rfl rfl rfl rfl (Nat.le_of_ble_eq_true rfl) dX3_init_33 (fun H locs hP hD hS => ?_)
  have hP : va_P G cl [(a0, .inr (3, [.ref q1, .ref q2, .ref q3, .ref q4, .int 0])), (q1, .inl (cI, 10, .inl (fun _ => 0))), (q2, .inl (cI, 10, .inl (fun _ => 0))), (q3, .inl (cI, 10, .inl (fun _ => 0))), (q4, .inl (cI, 10, .inl (fun _ => 0)))] H := hP
  have hD : va_D A [(a0, .inr (3, [.ref q1, .ref q2, .ref q3, .ref q4, .int 0])), (q1, .inl (cI, 10, .inl (fun _ => 0))), (q2, .inl (cI, 10, .inl (fun _ => 0))), (q3, .inl (cI, 10, .inl (fun _ => 0))), (q4, .inl (cI, 10, .inl (fun _ => 0)))] := hD
  refine lv_aload_n hx hb dX3_init_36 rfl (lv_at hl 0 rfl) ?_
  refine lv_iconst (v := 0) hx hb dX3_init_37 (by decide) ?_
  refine k_put hC hK hP hD hS iX3 tyX3_ok nmX3 0 4 wf_X3_24 rfl (by decide) rfl rfl rfl rfl (Nat.le_of_ble_eq_true rfl) dX3_init_38 (fun H locs hP hD hS => ?_)
  have hP : va_P G cl [(a0, .inr (3, [.ref q1, .ref q2, .ref q3, .ref q4, .int 0])), (q1, .inl (cI, 10, .inl (fun _ => 0))), (q2, .inl (cI, 10, .inl (fun _ => 0))), (q3, .inl (cI, 10, .inl (fun _ => 0))), (q4, .inl (cI, 10, .inl (fun _ => 0)))] H := hP
  have hD : va_D A [(a0, .inr (3, [.ref q1, .ref q2, .ref q3, .ref q4, .int 0])), (q1, .inl (cI, 10, .inl (fun _ => 0))), (q2, .inl (cI, 10, .inl (fun _ => 0))), (q3, .inl (cI, 10, .inl (fun _ => 0))), (q4, .inl (cI, 10, .inl (fun _ => 0)))] := hD
  exact k_vret hC hr hlk hK hP hD hS (fun k => [q1, q2, q3, q4].getD k 0) [0] rfl (by decide) trivial (Nat.le_of_ble_eq_true rfl) (Nat.le_of_ble_eq_true rfl) dX3_init_41
theorem dJ7_fill_53178_0 : decode cJ7_fill_53178 0 = .ok (.iconst 0, 1) := by decide +kernel
theorem dJ7_fill_53178_1 : decode cJ7_fill_53178 1 = .ok (.istore_n 2, 1) := by decide +kernel
theorem dJ7_fill_53178_2 : decode cJ7_fill_53178 2 = .ok (.aload_n 0, 1) := by decide +kernel
theorem dJ7_fill_53178_3 : decode cJ7_fill_53178 3 = .ok (.arraylength, 1) := by decide +kernel
theorem dJ7_fill_53178_4 : decode cJ7_fill_53178 4 = .ok (.istore_n 3, 1) := by decide +kernel
theorem dJ7_fill_53178_5 : decode cJ7_fill_53178 5 = .ok (.iload_n 2, 1) := by decide +kernel
theorem dJ7_fill_53178_6 : decode cJ7_fill_53178 6 = .ok (.iload_n 3, 1) := by decide +kernel
theorem dJ7_fill_53178_7 : decode cJ7_fill_53178 7 = .ok (.if_icmp .ge 13, 3) := by decide +kernel
theorem dJ7_fill_53178_10 : decode cJ7_fill_53178 10 = .ok (.aload_n 0, 1) := by decide +kernel
theorem dJ7_fill_53178_11 : decode cJ7_fill_53178 11 = .ok (.iload_n 2, 1) := by decide +kernel
theorem dJ7_fill_53178_12 : decode cJ7_fill_53178 12 = .ok (.iload_n 1, 1) := by decide +kernel
theorem dJ7_fill_53178_13 : decode cJ7_fill_53178 13 = .ok (.iastore, 1) := by decide +kernel
theorem dJ7_fill_53178_14 : decode cJ7_fill_53178 14 = .ok (.iinc 2 1, 3) := by decide +kernel
theorem dJ7_fill_53178_17 : decode cJ7_fill_53178 17 = .ok (.goto (-12), 3) := by decide +kernel
theorem dJ7_fill_53178_20 : decode cJ7_fill_53178 20 = .ok (.return_, 1) := by decide +kernel
set_option maxHeartbeats 4000000 in
set_option maxRecDepth 100000 in
theorem c3_J7_fill_53178 (l : Launch) (G : va_G) (cI cJ cB cZ : ClassId) (a0 : Nat) : Con l G (TY cI cJ cB cZ) yJ7_fill_53178 cJ7_fill_53178 4 none ({ frames := 0, cells := 0, slots := 0, locals := 0 } : Room) [.ref a0, .int 16] [(a0, .inl (cI, 2, .inl (fun _ => 0)))] (QV G (TY cI cJ cB cZ) (fun u : Unit => True) (fun u : Unit => [(a0, .inl (cI, 2, .inl (upd (upd (fun _ => 0) 0 16) 1 16)))])) := by
  refine k_met (by decide) (Nat.le_of_ble_eq_true rfl) ?_
  intro p e s m below meth c A ls hC hr hlk hnm hN hK hA hP hD hS hl
  have hl : lv_has ls 4 [(0, .ref a0), (1, .int 16)] := hl
  obtain ⟨hx, hb, hml, hown, hts⟩ := id hC
  refine lv_iconst (v := 0) hx hb dJ7_fill_53178_0 (by decide) ?_
  refine lv_istore_n (lv' := [(2, .int 0), (0, .ref a0), (1, .int 16)]) hx hb dJ7_fill_53178_1 rfl hl (by decide) rfl (fun ls hl => ?_)
  refine lv_aload_n hx hb dJ7_fill_53178_2 rfl (lv_at hl 1 rfl) ?_
  refine k_alen hC hK hP 0 0 2 rfl rfl (by decide +kernel) dJ7_fill_53178_3 ?_
  refine lv_istore_n (lv' := [(3, .int 2), (2, .int 0), (0, .ref a0), (1, .int 16)]) hx hb dJ7_fill_53178_4 rfl hl (by decide) rfl (fun ls hl => ?_)
  refine lv_iload_n hx hb dJ7_fill_53178_5 rfl (lv_at hl 1 rfl) ?_
  refine lv_iload_n hx hb dJ7_fill_53178_6 rfl (lv_at hl 0 rfl) ?_
  refine lv_icmp_ge (tgt := 20) hx hb dJ7_fill_53178_7 (by decide) (fun c_ => absurd c_ (by decide +kernel)) (fun _ => ?_)
  refine lv_aload_n hx hb dJ7_fill_53178_10 rfl (lv_at hl 2 rfl) ?_
  refine lv_iload_n hx hb dJ7_fill_53178_11 rfl (lv_at hl 1 rfl) ?_
  refine lv_iload_n hx hb dJ7_fill_53178_12 rfl (lv_at hl 3 rfl) ?_
  refine k_iast hC hK hP hD hS 0 0 rfl (by decide +kernel) (by decide) dJ7_fill_53178_13 (fun H locs hP hD hS => ?_)
  have hP : va_P G cl [(a0, .inl (cI, 2, .inl (upd (fun _ => 0) 0 16)))] H := hP
  have hD : va_D A [(a0, .inl (cI, 2, .inl (upd (fun _ => 0) 0 16)))] := hD
  refine lv_iinc (v := 1) (lv' := [(2, .int 1), (3, .int 2), (0, .ref a0), (1, .int 16)]) hx hb dJ7_fill_53178_14 hl (k := 1) rfl (by decide +kernel) (by decide) rfl (fun ls hl => ?_)
  refine lv_goto (tgt := 5) hx hb dJ7_fill_53178_17 (by decide) ?_
  refine lv_iload_n hx hb dJ7_fill_53178_5 rfl (lv_at hl 0 rfl) ?_
  refine lv_iload_n hx hb dJ7_fill_53178_6 rfl (lv_at hl 1 rfl) ?_
  refine lv_icmp_ge (tgt := 20) hx hb dJ7_fill_53178_7 (by decide) (fun c_ => absurd c_ (by decide +kernel)) (fun _ => ?_)
  refine lv_aload_n hx hb dJ7_fill_53178_10 rfl (lv_at hl 2 rfl) ?_
  refine lv_iload_n hx hb dJ7_fill_53178_11 rfl (lv_at hl 0 rfl) ?_
  refine lv_iload_n hx hb dJ7_fill_53178_12 rfl (lv_at hl 3 rfl) ?_
  refine k_iast hC hK hP hD hS 0 1 rfl (by decide +kernel) (by decide) dJ7_fill_53178_13 (fun H locs hP hD hS => ?_)
  have hP : va_P G cl [(a0, .inl (cI, 2, .inl (upd (upd (fun _ => 0) 0 16) 1 16)))] H := hP
  have hD : va_D A [(a0, .inl (cI, 2, .inl (upd (upd (fun _ => 0) 0 16) 1 16)))] := hD
  refine lv_iinc (v := 2) (lv' := [(2, .int 2), (3, .int 2), (0, .ref a0), (1, .int 16)]) hx hb dJ7_fill_53178_14 hl (k := 0) rfl (by decide +kernel) (by decide) rfl (fun ls hl => ?_)
  refine lv_goto (tgt := 5) hx hb dJ7_fill_53178_17 (by decide) ?_
  refine lv_iload_n hx hb dJ7_fill_53178_5 rfl (lv_at hl 0 rfl) ?_
  refine lv_iload_n hx hb dJ7_fill_53178_6 rfl (lv_at hl 1 rfl) ?_
  refine lv_icmp_ge (tgt := 20) hx hb dJ7_fill_53178_7 (by decide) (fun _ => ?_) (fun c_ => absurd (by decide +kernel) c_)
  exact k_vret hC hr hlk hK hP hD hS () [0] rfl (by decide) trivial (Nat.le_of_ble_eq_true rfl) (Nat.le_of_ble_eq_true rfl) dJ7_fill_53178_20
theorem dX7_makeEmpty_0 : decode cX7_makeEmpty 0 = .ok (.aload_n 0, 1) := by decide +kernel
theorem dX7_makeEmpty_1 : decode cX7_makeEmpty 1 = .ok (.bipush 100, 2) := by decide +kernel
theorem dX7_makeEmpty_3 : decode cX7_makeEmpty 3 = .ok (.putfield 59, 3) := by decide +kernel
set_option maxRecDepth 100000 in
theorem wf_X7_59 : Cond.fieldLink RX7 59 "StoneTrust$Village" "armLow" "I" ∈ gw := gm (List.mem_of_getElem? (i := 223) (by decide +kernel)) rfl
theorem dX7_makeEmpty_6 : decode cX7_makeEmpty 6 = .ok (.aload_n 0, 1) := by decide +kernel
theorem dX7_makeEmpty_7 : decode cX7_makeEmpty 7 = .ok (.bipush 100, 2) := by decide +kernel
theorem dX7_makeEmpty_9 : decode cX7_makeEmpty 9 = .ok (.putfield 63, 3) := by decide +kernel
set_option maxRecDepth 100000 in
theorem wf_X7_63 : Cond.fieldLink RX7 63 "StoneTrust$Village" "armHigh" "I" ∈ gw := gm (List.mem_of_getElem? (i := 226) (by decide +kernel)) rfl
theorem dX7_makeEmpty_12 : decode cX7_makeEmpty 12 = .ok (.aload_n 0, 1) := by decide +kernel
theorem dX7_makeEmpty_13 : decode cX7_makeEmpty 13 = .ok (.iconst 0, 1) := by decide +kernel
theorem dX7_makeEmpty_14 : decode cX7_makeEmpty 14 = .ok (.putfield 66, 3) := by decide +kernel
set_option maxRecDepth 100000 in
theorem wf_X7_66 : Cond.fieldLink RX7 66 "StoneTrust$Village" "feel" "I" ∈ gw := gm (List.mem_of_getElem? (i := 229) (by decide +kernel)) rfl
theorem dX7_makeEmpty_17 : decode cX7_makeEmpty 17 = .ok (.aload_n 0, 1) := by decide +kernel
theorem dX7_makeEmpty_18 : decode cX7_makeEmpty 18 = .ok (.getfield 9, 3) := by decide +kernel
set_option maxRecDepth 100000 in
theorem wf_X7_9 : Cond.fieldLink RX7 9 "StoneTrust$Village" "poundLow" "[I" ∈ gw := gm (List.mem_of_getElem? (i := 232) (by decide +kernel)) rfl
theorem dX7_makeEmpty_21 : decode cX7_makeEmpty 21 = .ok (.bipush 16, 2) := by decide +kernel
theorem dX7_makeEmpty_23 : decode cX7_makeEmpty 23 = .ok (.invokestatic 69, 3) := by decide +kernel
set_option maxRecDepth 100000 in
theorem wm_X7_69 : Cond.methodLink RX7 69 yJ7_fill_53178 ∈ gw := gm (List.mem_of_getElem? (i := 220) (by decide +kernel)) rfl
set_option maxRecDepth 100000 in
theorem mi_J7_fill_53178 : MI yJ7_fill_53178 cJ7_fill_53178 4 none 2 := ⟨gm (List.mem_of_getElem? (i := 222) rfl) rfl, gm (List.mem_of_getElem? (i := 117) (by decide +kernel)) rfl, by decide, by decide, by decide +kernel⟩
set_option maxRecDepth 100000 in
theorem st_J7_fill_53178 : Cond.static yJ7_fill_53178 ∈ gw := gm (List.mem_of_getElem? (i := 221) (by decide +kernel)) rfl
theorem dX7_makeEmpty_26 : decode cX7_makeEmpty 26 = .ok (.aload_n 0, 1) := by decide +kernel
theorem dX7_makeEmpty_27 : decode cX7_makeEmpty 27 = .ok (.getfield 15, 3) := by decide +kernel
set_option maxRecDepth 100000 in
theorem wf_X7_15 : Cond.fieldLink RX7 15 "StoneTrust$Village" "poundHigh" "[I" ∈ gw := gm (List.mem_of_getElem? (i := 235) (by decide +kernel)) rfl
theorem dX7_makeEmpty_30 : decode cX7_makeEmpty 30 = .ok (.bipush 16, 2) := by decide +kernel
theorem dX7_makeEmpty_32 : decode cX7_makeEmpty 32 = .ok (.invokestatic 69, 3) := by decide +kernel
theorem dX7_makeEmpty_35 : decode cX7_makeEmpty 35 = .ok (.aload_n 0, 1) := by decide +kernel
theorem dX7_makeEmpty_36 : decode cX7_makeEmpty 36 = .ok (.iconst 0, 1) := by decide +kernel
theorem dX7_makeEmpty_37 : decode cX7_makeEmpty 37 = .ok (.putfield 75, 3) := by decide +kernel
set_option maxRecDepth 100000 in
theorem wf_X7_75 : Cond.fieldLink RX7 75 "StoneTrust$Village" "stones" "I" ∈ gw := gm (List.mem_of_getElem? (i := 238) (by decide +kernel)) rfl
theorem dX7_makeEmpty_40 : decode cX7_makeEmpty 40 = .ok (.aload_n 0, 1) := by decide +kernel
theorem dX7_makeEmpty_41 : decode cX7_makeEmpty 41 = .ok (.getfield 45, 3) := by decide +kernel
set_option maxRecDepth 100000 in
theorem wf_X7_45 : Cond.fieldLink RX7 45 "StoneTrust$Village" "weighings" "LStoneTrust$Weighings;" ∈ gw := gm (List.mem_of_getElem? (i := 259) (by decide +kernel)) rfl
theorem dX7_makeEmpty_44 : decode cX7_makeEmpty 44 = .ok (.iconst 0, 1) := by decide +kernel
theorem dX7_makeEmpty_45 : decode cX7_makeEmpty 45 = .ok (.putfield 78, 3) := by decide +kernel
set_option maxRecDepth 100000 in
theorem wf_X7_78 : Cond.fieldLinkNest RX7 78 "StoneTrust$Weighings" "size" "I" "StoneTrust" ∈ nests := nm_ (List.mem_of_getElem? (i := 165) (by decide +kernel)) rfl
theorem dX7_makeEmpty_48 : decode cX7_makeEmpty 48 = .ok (.aload_n 0, 1) := by decide +kernel
theorem dX7_makeEmpty_49 : decode cX7_makeEmpty 49 = .ok (.getfield 52, 3) := by decide +kernel
set_option maxRecDepth 100000 in
theorem wf_X7_52 : Cond.fieldLink RX7 52 "StoneTrust$Village" "sales" "LStoneTrust$Sales;" ∈ gw := gm (List.mem_of_getElem? (i := 263) (by decide +kernel)) rfl
theorem dX7_makeEmpty_52 : decode cX7_makeEmpty 52 = .ok (.iconst 0, 1) := by decide +kernel
theorem dX7_makeEmpty_53 : decode cX7_makeEmpty 53 = .ok (.putfield 81, 3) := by decide +kernel
set_option maxRecDepth 100000 in
theorem wf_X7_81 : Cond.fieldLinkNest RX7 81 "StoneTrust$Sales" "size" "I" "StoneTrust" ∈ nests := nm_ (List.mem_of_getElem? (i := 202) (by decide +kernel)) rfl
theorem dX7_makeEmpty_56 : decode cX7_makeEmpty 56 = .ok (.return_, 1) := by decide +kernel
set_option maxHeartbeats 4000000 in
set_option maxRecDepth 100000 in
theorem c4_X7_makeEmpty (l : Launch) (G : va_G) (cI cJ cB cZ : ClassId) (a0 a1 a2 a3 a4 a5 a6 a7 a8 a9 a10 a11 a12 a13 a14 a15 a16 a17 a18 a19 a20 a21 a22 : Nat) : Con l G (TY cI cJ cB cZ) yX7_makeEmpty cX7_makeEmpty 1 none ({ frames := 1, cells := 0, slots := 0, locals := 23 } : Room) [.ref a0] [(a0, .inr (7, [.int 0, .int 0, .int 0, .ref a1, .ref a2, .int 0, .ref a3, .ref a4, .ref a5, .ref a6, .ref a7, .ref a8, .ref a9, .ref a10, .ref a11])), (a1, .inl (cI, 2, .inl (fun _ => 0))), (a2, .inl (cI, 2, .inl (fun _ => 0))), (a10, .inr (8, [.ref a12, .ref a13, .ref a14, .ref a15, .ref a16, .ref a17, .ref a18, .int 0])), (a11, .inr (3, [.ref a19, .ref a20, .ref a21, .ref a22, .int 0]))] (QV G (TY cI cJ cB cZ) (fun u : Unit => True) (fun u : Unit => [(a0, .inr (7, [.int 100, .int 100, .int 0, .ref a1, .ref a2, .int 0, .ref a3, .ref a4, .ref a5, .ref a6, .ref a7, .ref a8, .ref a9, .ref a10, .ref a11])), (a1, .inl (cI, 2, .inl (upd (upd (fun _ => 0) 0 16) 1 16))), (a2, .inl (cI, 2, .inl (upd (upd (fun _ => 0) 0 16) 1 16))), (a10, .inr (8, [.ref a12, .ref a13, .ref a14, .ref a15, .ref a16, .ref a17, .ref a18, .int 0])), (a11, .inr (3, [.ref a19, .ref a20, .ref a21, .ref a22, .int 0]))])) := by
  refine k_met (by decide) (Nat.le_of_ble_eq_true rfl) ?_
  intro p e s m below meth c A ls hC hr hlk hnm hN hK hA hP hD hS hl
  have hl : lv_has ls 1 [(0, .ref a0)] := hl
  obtain ⟨hx, hb, hml, hown, hts⟩ := id hC
  refine lv_aload_n hx hb dX7_makeEmpty_0 rfl (lv_at hl 0 rfl) ?_
  refine lv_bipush (v := 100) hx hb dX7_makeEmpty_1 (by decide) ?_
  refine k_put hC hK hP hD hS iX7 tyX7_ok nmX7 0 0 wf_X7_59 rfl (by decide) rfl rfl rfl rfl (Nat.le_of_ble_eq_true rfl) dX7_makeEmpty_3 (fun H locs hP hD hS => ?_)
  have hP : va_P G cl [(a0, .inr (7, [.int 100, .int 0, .int 0, .ref a1, .ref a2, .int 0, .ref a3, .ref a4, .ref a5, .ref a6, .ref a7, .ref a8, .ref a9, .ref a10, .ref a11])), (a1, .inl (cI, 2, .inl (fun _ => 0))), (a2, .inl (cI, 2, .inl (fun _ => 0))), (a10, .inr (8, [.ref a12, .ref a13, .ref a14, .ref a15, .ref a16, .ref a17, .ref a18, .int 0])), (a11, .inr (3, [.ref a19, .ref a20, .ref a21, .ref a22, .int 0]))] H := hP
  have hD : va_D A [(a0, .inr (7, [.int 100, .int 0, .int 0, .ref a1, .ref a2, .int 0, .ref a3, .ref a4, .ref a5, .ref a6, .ref a7, .ref a8, .ref a9, .ref a10, .ref a11])), (a1, .inl (cI, 2, .inl (fun _ => 0))), (a2, .inl (cI, 2, .inl (fun _ => 0))), (a10, .inr (8, [.ref a12, .ref a13, .ref a14, .ref a15, .ref a16, .ref a17, .ref a18, .int 0])), (a11, .inr (3, [.ref a19, .ref a20, .ref a21, .ref a22, .int 0]))] := hD
  refine lv_aload_n hx hb dX7_makeEmpty_6 rfl (lv_at hl 0 rfl) ?_
  refine lv_bipush (v := 100) hx hb dX7_makeEmpty_7 (by decide) ?_
  refine k_put hC hK hP hD hS iX7 tyX7_ok nmX7 0 1 wf_X7_63 rfl (by decide) rfl rfl rfl rfl (Nat.le_of_ble_eq_true rfl) dX7_makeEmpty_9 (fun H locs hP hD hS => ?_)
  have hP : va_P G cl [(a0, .inr (7, [.int 100, .int 100, .int 0, .ref a1, .ref a2, .int 0, .ref a3, .ref a4, .ref a5, .ref a6, .ref a7, .ref a8, .ref a9, .ref a10, .ref a11])), (a1, .inl (cI, 2, .inl (fun _ => 0))), (a2, .inl (cI, 2, .inl (fun _ => 0))), (a10, .inr (8, [.ref a12, .ref a13, .ref a14, .ref a15, .ref a16, .ref a17, .ref a18, .int 0])), (a11, .inr (3, [.ref a19, .ref a20, .ref a21, .ref a22, .int 0]))] H := hP
  have hD : va_D A [(a0, .inr (7, [.int 100, .int 100, .int 0, .ref a1, .ref a2, .int 0, .ref a3, .ref a4, .ref a5, .ref a6, .ref a7, .ref a8, .ref a9, .ref a10, .ref a11])), (a1, .inl (cI, 2, .inl (fun _ => 0))), (a2, .inl (cI, 2, .inl (fun _ => 0))), (a10, .inr (8, [.ref a12, .ref a13, .ref a14, .ref a15, .ref a16, .ref a17, .ref a18, .int 0])), (a11, .inr (3, [.ref a19, .ref a20, .ref a21, .ref a22, .int 0]))] := hD
  refine lv_aload_n hx hb dX7_makeEmpty_12 rfl (lv_at hl 0 rfl) ?_
  refine lv_iconst (v := 0) hx hb dX7_makeEmpty_13 (by decide) ?_
  refine k_put hC hK hP hD hS iX7 tyX7_ok nmX7 0 2 wf_X7_66 rfl (by decide) rfl rfl rfl rfl (Nat.le_of_ble_eq_true rfl) dX7_makeEmpty_14 (fun H locs hP hD hS => ?_)
  have hP : va_P G cl [(a0, .inr (7, [.int 100, .int 100, .int 0, .ref a1, .ref a2, .int 0, .ref a3, .ref a4, .ref a5, .ref a6, .ref a7, .ref a8, .ref a9, .ref a10, .ref a11])), (a1, .inl (cI, 2, .inl (fun _ => 0))), (a2, .inl (cI, 2, .inl (fun _ => 0))), (a10, .inr (8, [.ref a12, .ref a13, .ref a14, .ref a15, .ref a16, .ref a17, .ref a18, .int 0])), (a11, .inr (3, [.ref a19, .ref a20, .ref a21, .ref a22, .int 0]))] H := hP
  have hD : va_D A [(a0, .inr (7, [.int 100, .int 100, .int 0, .ref a1, .ref a2, .int 0, .ref a3, .ref a4, .ref a5, .ref a6, .ref a7, .ref a8, .ref a9, .ref a10, .ref a11])), (a1, .inl (cI, 2, .inl (fun _ => 0))), (a2, .inl (cI, 2, .inl (fun _ => 0))), (a10, .inr (8, [.ref a12, .ref a13, .ref a14, .ref a15, .ref a16, .ref a17, .ref a18, .int 0])), (a11, .inr (3, [.ref a19, .ref a20, .ref a21, .ref a22, .int 0]))] := hD
  refine lv_aload_n hx hb dX7_makeEmpty_17 rfl (lv_at hl 0 rfl) ?_
  refine k_get hC hK hP iX7 0 3 wf_X7_9 rfl (by decide) rfl rfl dX7_makeEmpty_18 ?_
  refine lv_bipush (v := 16) hx hb dX7_makeEmpty_21 (by decide) ?_
  refine k_cv (wr := [(a0, .inr (7, [.int 100, .int 100, .int 0, .ref a1, .ref a2, .int 0, .ref a3, .ref a4, .ref a5, .ref a6, .ref a7, .ref a8, .ref a9, .ref a10, .ref a11])), (a2, .inl (cI, 2, .inl (fun _ => 0))), (a10, .inr (8, [.ref a12, .ref a13, .ref a14, .ref a15, .ref a16, .ref a17, .ref a18, .int 0])), (a11, .inr (3, [.ref a19, .ref a20, .ref a21, .ref a22, .int 0]))]) (k_rS hC hN hK hP hD (c3_J7_fill_53178 l G cI cJ cB cZ a1) [1] rfl (by decide) mi_J7_fill_53178 st_J7_fill_53178 wm_X7_69 hl.1 rfl rfl (Nat.le_of_ble_eq_true rfl) ⟨(Nat.le_of_ble_eq_true rfl), (Nat.le_of_ble_eq_true rfl)⟩ dX7_makeEmpty_23 ⟨(Nat.le_of_ble_eq_true rfl), (Nat.le_of_ble_eq_true rfl)⟩) hP hD hS hA [1] [0, 2, 3, 4] rfl rfl (by decide) (by decide) (fun u1 H locs hp hP hD hS => ?_)
  have hP : va_P G cl [(a0, .inr (7, [.int 100, .int 100, .int 0, .ref a1, .ref a2, .int 0, .ref a3, .ref a4, .ref a5, .ref a6, .ref a7, .ref a8, .ref a9, .ref a10, .ref a11])), (a2, .inl (cI, 2, .inl (fun _ => 0))), (a10, .inr (8, [.ref a12, .ref a13, .ref a14, .ref a15, .ref a16, .ref a17, .ref a18, .int 0])), (a11, .inr (3, [.ref a19, .ref a20, .ref a21, .ref a22, .int 0])), (a1, .inl (cI, 2, .inl (upd (upd (fun _ => 0) 0 16) 1 16)))] H := hP
  have hD : va_D A [(a0, .inr (7, [.int 100, .int 100, .int 0, .ref a1, .ref a2, .int 0, .ref a3, .ref a4, .ref a5, .ref a6, .ref a7, .ref a8, .ref a9, .ref a10, .ref a11])), (a2, .inl (cI, 2, .inl (fun _ => 0))), (a10, .inr (8, [.ref a12, .ref a13, .ref a14, .ref a15, .ref a16, .ref a17, .ref a18, .int 0])), (a11, .inr (3, [.ref a19, .ref a20, .ref a21, .ref a22, .int 0])), (a1, .inl (cI, 2, .inl (upd (upd (fun _ => 0) 0 16) 1 16)))] := hD
  refine lv_aload_n hx hb dX7_makeEmpty_26 rfl (lv_at hl 0 rfl) ?_
  refine k_get hC hK hP iX7 0 4 wf_X7_15 rfl (by decide) rfl rfl dX7_makeEmpty_27 ?_
  refine lv_bipush (v := 16) hx hb dX7_makeEmpty_30 (by decide) ?_
  refine k_cv (wr := [(a0, .inr (7, [.int 100, .int 100, .int 0, .ref a1, .ref a2, .int 0, .ref a3, .ref a4, .ref a5, .ref a6, .ref a7, .ref a8, .ref a9, .ref a10, .ref a11])), (a10, .inr (8, [.ref a12, .ref a13, .ref a14, .ref a15, .ref a16, .ref a17, .ref a18, .int 0])), (a11, .inr (3, [.ref a19, .ref a20, .ref a21, .ref a22, .int 0])), (a1, .inl (cI, 2, .inl (upd (upd (fun _ => 0) 0 16) 1 16)))]) (k_rS hC hN hK hP hD (c3_J7_fill_53178 l G cI cJ cB cZ a2) [1] rfl (by decide) mi_J7_fill_53178 st_J7_fill_53178 wm_X7_69 hl.1 rfl rfl (Nat.le_of_ble_eq_true rfl) ⟨(Nat.le_of_ble_eq_true rfl), (Nat.le_of_ble_eq_true rfl)⟩ dX7_makeEmpty_32 ⟨(Nat.le_of_ble_eq_true rfl), (Nat.le_of_ble_eq_true rfl)⟩) hP hD hS hA [1] [0, 2, 3, 4] rfl rfl (by decide) (by decide) (fun u2 H locs hp hP hD hS => ?_)
  have hP : va_P G cl [(a0, .inr (7, [.int 100, .int 100, .int 0, .ref a1, .ref a2, .int 0, .ref a3, .ref a4, .ref a5, .ref a6, .ref a7, .ref a8, .ref a9, .ref a10, .ref a11])), (a10, .inr (8, [.ref a12, .ref a13, .ref a14, .ref a15, .ref a16, .ref a17, .ref a18, .int 0])), (a11, .inr (3, [.ref a19, .ref a20, .ref a21, .ref a22, .int 0])), (a1, .inl (cI, 2, .inl (upd (upd (fun _ => 0) 0 16) 1 16))), (a2, .inl (cI, 2, .inl (upd (upd (fun _ => 0) 0 16) 1 16)))] H := hP
  have hD : va_D A [(a0, .inr (7, [.int 100, .int 100, .int 0, .ref a1, .ref a2, .int 0, .ref a3, .ref a4, .ref a5, .ref a6, .ref a7, .ref a8, .ref a9, .ref a10, .ref a11])), (a10, .inr (8, [.ref a12, .ref a13, .ref a14, .ref a15, .ref a16, .ref a17, .ref a18, .int 0])), (a11, .inr (3, [.ref a19, .ref a20, .ref a21, .ref a22, .int 0])), (a1, .inl (cI, 2, .inl (upd (upd (fun _ => 0) 0 16) 1 16))), (a2, .inl (cI, 2, .inl (upd (upd (fun _ => 0) 0 16) 1 16)))] := hD
  refine lv_aload_n hx hb dX7_makeEmpty_35 rfl (lv_at hl 0 rfl) ?_
  refine lv_iconst (v := 0) hx hb dX7_makeEmpty_36 (by decide) ?_
  refine k_put hC hK hP hD hS iX7 tyX7_ok nmX7 0 5 wf_X7_75 rfl (by decide) rfl rfl rfl rfl (Nat.le_of_ble_eq_true rfl) dX7_makeEmpty_37 (fun H locs hP hD hS => ?_)
  have hP : va_P G cl [(a0, .inr (7, [.int 100, .int 100, .int 0, .ref a1, .ref a2, .int 0, .ref a3, .ref a4, .ref a5, .ref a6, .ref a7, .ref a8, .ref a9, .ref a10, .ref a11])), (a10, .inr (8, [.ref a12, .ref a13, .ref a14, .ref a15, .ref a16, .ref a17, .ref a18, .int 0])), (a11, .inr (3, [.ref a19, .ref a20, .ref a21, .ref a22, .int 0])), (a1, .inl (cI, 2, .inl (upd (upd (fun _ => 0) 0 16) 1 16))), (a2, .inl (cI, 2, .inl (upd (upd (fun _ => 0) 0 16) 1 16)))] H := hP
  have hD : va_D A [(a0, .inr (7, [.int 100, .int 100, .int 0, .ref a1, .ref a2, .int 0, .ref a3, .ref a4, .ref a5, .ref a6, .ref a7, .ref a8, .ref a9, .ref a10, .ref a11])), (a10, .inr (8, [.ref a12, .ref a13, .ref a14, .ref a15, .ref a16, .ref a17, .ref a18, .int 0])), (a11, .inr (3, [.ref a19, .ref a20, .ref a21, .ref a22, .int 0])), (a1, .inl (cI, 2, .inl (upd (upd (fun _ => 0) 0 16) 1 16))), (a2, .inl (cI, 2, .inl (upd (upd (fun _ => 0) 0 16) 1 16)))] := hD
  refine lv_aload_n hx hb dX7_makeEmpty_40 rfl (lv_at hl 0 rfl) ?_
  refine k_get hC hK hP iX7 0 13 wf_X7_45 rfl (by decide) rfl rfl dX7_makeEmpty_41 ?_
  refine lv_iconst (v := 0) hx hb dX7_makeEmpty_44 (by decide) ?_
  refine k_putN hC hN hK hP hD hS iX8 tyX8_ok nmX8 1 7 wf_X7_78 rfl (by decide) rfl rfl rfl rfl (Nat.le_of_ble_eq_true rfl) dX7_makeEmpty_45 (fun H locs hP hD hS => ?_)
  have hP : va_P G cl [(a0, .inr (7, [.int 100, .int 100, .int 0, .ref a1, .ref a2, .int 0, .ref a3, .ref a4, .ref a5, .ref a6, .ref a7, .ref a8, .ref a9, .ref a10, .ref a11])), (a10, .inr (8, [.ref a12, .ref a13, .ref a14, .ref a15, .ref a16, .ref a17, .ref a18, .int 0])), (a11, .inr (3, [.ref a19, .ref a20, .ref a21, .ref a22, .int 0])), (a1, .inl (cI, 2, .inl (upd (upd (fun _ => 0) 0 16) 1 16))), (a2, .inl (cI, 2, .inl (upd (upd (fun _ => 0) 0 16) 1 16)))] H := hP
  have hD : va_D A [(a0, .inr (7, [.int 100, .int 100, .int 0, .ref a1, .ref a2, .int 0, .ref a3, .ref a4, .ref a5, .ref a6, .ref a7, .ref a8, .ref a9, .ref a10, .ref a11])), (a10, .inr (8, [.ref a12, .ref a13, .ref a14, .ref a15, .ref a16, .ref a17, .ref a18, .int 0])), (a11, .inr (3, [.ref a19, .ref a20, .ref a21, .ref a22, .int 0])), (a1, .inl (cI, 2, .inl (upd (upd (fun _ => 0) 0 16) 1 16))), (a2, .inl (cI, 2, .inl (upd (upd (fun _ => 0) 0 16) 1 16)))] := hD
  refine lv_aload_n hx hb dX7_makeEmpty_48 rfl (lv_at hl 0 rfl) ?_
  refine k_get hC hK hP iX7 0 14 wf_X7_52 rfl (by decide) rfl rfl dX7_makeEmpty_49 ?_
  refine lv_iconst (v := 0) hx hb dX7_makeEmpty_52 (by decide) ?_
  refine k_putN hC hN hK hP hD hS iX3 tyX3_ok nmX3 2 4 wf_X7_81 rfl (by decide) rfl rfl rfl rfl (Nat.le_of_ble_eq_true rfl) dX7_makeEmpty_53 (fun H locs hP hD hS => ?_)
  have hP : va_P G cl [(a0, .inr (7, [.int 100, .int 100, .int 0, .ref a1, .ref a2, .int 0, .ref a3, .ref a4, .ref a5, .ref a6, .ref a7, .ref a8, .ref a9, .ref a10, .ref a11])), (a10, .inr (8, [.ref a12, .ref a13, .ref a14, .ref a15, .ref a16, .ref a17, .ref a18, .int 0])), (a11, .inr (3, [.ref a19, .ref a20, .ref a21, .ref a22, .int 0])), (a1, .inl (cI, 2, .inl (upd (upd (fun _ => 0) 0 16) 1 16))), (a2, .inl (cI, 2, .inl (upd (upd (fun _ => 0) 0 16) 1 16)))] H := hP
  have hD : va_D A [(a0, .inr (7, [.int 100, .int 100, .int 0, .ref a1, .ref a2, .int 0, .ref a3, .ref a4, .ref a5, .ref a6, .ref a7, .ref a8, .ref a9, .ref a10, .ref a11])), (a10, .inr (8, [.ref a12, .ref a13, .ref a14, .ref a15, .ref a16, .ref a17, .ref a18, .int 0])), (a11, .inr (3, [.ref a19, .ref a20, .ref a21, .ref a22, .int 0])), (a1, .inl (cI, 2, .inl (upd (upd (fun _ => 0) 0 16) 1 16))), (a2, .inl (cI, 2, .inl (upd (upd (fun _ => 0) 0 16) 1 16)))] := hD
  exact k_vret hC hr hlk hK hP hD hS () [0, 3, 4, 1, 2] rfl (by decide) trivial (Nat.le_of_ble_eq_true rfl) (Nat.le_of_ble_eq_true rfl) dX7_makeEmpty_56
theorem dX7_init_0 : decode cX7_init 0 = .ok (.aload_n 0, 1) := by decide +kernel
theorem dX7_init_1 : decode cX7_init 1 = .ok (.invokespecial 3, 3) := by decide +kernel
set_option maxRecDepth 100000 in
theorem wm_X7_3 : Cond.methodLink RX7 3 Lib.objectInit ∈ gw := gm (List.mem_of_getElem? (i := 140) (by decide +kernel)) rfl
theorem dX7_init_4 : decode cX7_init 4 = .ok (.aload_n 0, 1) := by decide +kernel
theorem dX7_init_5 : decode cX7_init 5 = .ok (.iconst 2, 1) := by decide +kernel
theorem dX7_init_6 : decode cX7_init 6 = .ok (.newarray .int, 2) := by decide +kernel
theorem dX7_init_8 : decode cX7_init 8 = .ok (.putfield 9, 3) := by decide +kernel
theorem dX7_init_11 : decode cX7_init 11 = .ok (.aload_n 0, 1) := by decide +kernel
theorem dX7_init_12 : decode cX7_init 12 = .ok (.iconst 2, 1) := by decide +kernel
theorem dX7_init_13 : decode cX7_init 13 = .ok (.newarray .int, 2) := by decide +kernel
theorem dX7_init_15 : decode cX7_init 15 = .ok (.putfield 15, 3) := by decide +kernel
theorem dX7_init_18 : decode cX7_init 18 = .ok (.aload_n 0, 1) := by decide +kernel
theorem dX7_init_19 : decode cX7_init 19 = .ok (.bipush 6, 2) := by decide +kernel
theorem dX7_init_21 : decode cX7_init 21 = .ok (.newarray .long, 2) := by decide +kernel
set_option maxRecDepth 100000 in
theorem warr_J : Cond.arrayClass .long ∈ gw := gm (List.mem_of_getElem? (i := 186) (by decide +kernel)) rfl
theorem dX7_init_23 : decode cX7_init 23 = .ok (.putfield 18, 3) := by decide +kernel
set_option maxRecDepth 100000 in
theorem wf_X7_18 : Cond.fieldLink RX7 18 "StoneTrust$Village" "name" "[J" ∈ gw := gm (List.mem_of_getElem? (i := 243) (by decide +kernel)) rfl
theorem dX7_init_26 : decode cX7_init 26 = .ok (.aload_n 0, 1) := by decide +kernel
theorem dX7_init_27 : decode cX7_init 27 = .ok (.bipush 6, 2) := by decide +kernel
theorem dX7_init_29 : decode cX7_init 29 = .ok (.newarray .int, 2) := by decide +kernel
theorem dX7_init_31 : decode cX7_init 31 = .ok (.putfield 22, 3) := by decide +kernel
set_option maxRecDepth 100000 in
theorem wf_X7_22 : Cond.fieldLink RX7 22 "StoneTrust$Village" "says" "[I" ∈ gw := gm (List.mem_of_getElem? (i := 245) (by decide +kernel)) rfl
theorem dX7_init_34 : decode cX7_init 34 = .ok (.aload_n 0, 1) := by decide +kernel
theorem dX7_init_35 : decode cX7_init 35 = .ok (.bipush 6, 2) := by decide +kernel
theorem dX7_init_37 : decode cX7_init 37 = .ok (.newarray .int, 2) := by decide +kernel
theorem dX7_init_39 : decode cX7_init 39 = .ok (.putfield 25, 3) := by decide +kernel
set_option maxRecDepth 100000 in
theorem wf_X7_25 : Cond.fieldLink RX7 25 "StoneTrust$Village" "town" "[I" ∈ gw := gm (List.mem_of_getElem? (i := 247) (by decide +kernel)) rfl
theorem dX7_init_42 : decode cX7_init 42 = .ok (.aload_n 0, 1) := by decide +kernel
theorem dX7_init_43 : decode cX7_init 43 = .ok (.bipush 6, 2) := by decide +kernel
theorem dX7_init_45 : decode cX7_init 45 = .ok (.newarray .int, 2) := by decide +kernel
theorem dX7_init_47 : decode cX7_init 47 = .ok (.putfield 28, 3) := by decide +kernel
set_option maxRecDepth 100000 in
theorem wf_X7_28 : Cond.fieldLink RX7 28 "StoneTrust$Village" "off" "[I" ∈ gw := gm (List.mem_of_getElem? (i := 250) (by decide +kernel)) rfl
theorem dX7_init_50 : decode cX7_init 50 = .ok (.aload_n 0, 1) := by decide +kernel
theorem dX7_init_51 : decode cX7_init 51 = .ok (.bipush 6, 2) := by decide +kernel
theorem dX7_init_53 : decode cX7_init 53 = .ok (.newarray .int, 2) := by decide +kernel
theorem dX7_init_55 : decode cX7_init 55 = .ok (.putfield 31, 3) := by decide +kernel
set_option maxRecDepth 100000 in
theorem wf_X7_31 : Cond.fieldLink RX7 31 "StoneTrust$Village" "worn" "[I" ∈ gw := gm (List.mem_of_getElem? (i := 252) (by decide +kernel)) rfl
theorem dX7_init_58 : decode cX7_init 58 = .ok (.aload_n 0, 1) := by decide +kernel
theorem dX7_init_59 : decode cX7_init 59 = .ok (.bipush 6, 2) := by decide +kernel
theorem dX7_init_61 : decode cX7_init 61 = .ok (.newarray .int, 2) := by decide +kernel
theorem dX7_init_63 : decode cX7_init 63 = .ok (.putfield 34, 3) := by decide +kernel
set_option maxRecDepth 100000 in
theorem wf_X7_34 : Cond.fieldLink RX7 34 "StoneTrust$Village" "masterLow" "[I" ∈ gw := gm (List.mem_of_getElem? (i := 255) (by decide +kernel)) rfl
theorem dX7_init_66 : decode cX7_init 66 = .ok (.aload_n 0, 1) := by decide +kernel
theorem dX7_init_67 : decode cX7_init 67 = .ok (.bipush 6, 2) := by decide +kernel
theorem dX7_init_69 : decode cX7_init 69 = .ok (.newarray .int, 2) := by decide +kernel
theorem dX7_init_71 : decode cX7_init 71 = .ok (.putfield 37, 3) := by decide +kernel
set_option maxRecDepth 100000 in
theorem wf_X7_37 : Cond.fieldLink RX7 37 "StoneTrust$Village" "masterHigh" "[I" ∈ gw := gm (List.mem_of_getElem? (i := 257) (by decide +kernel)) rfl
theorem dX7_init_74 : decode cX7_init 74 = .ok (.aload_n 0, 1) := by decide +kernel
theorem dX7_init_75 : decode cX7_init 75 = .ok (.new 40, 3) := by decide +kernel
set_option maxRecDepth 100000 in
theorem wcl_X7_40 : Cond.classLink RX7 40 RX8 ∈ gw := gm (List.mem_of_getElem? (i := 141) (by decide +kernel)) rfl
set_option maxRecDepth 100000 in
theorem wib_X8 : Cond.instantiable RX8 8 ∈ gw := gm (List.mem_of_getElem? (i := 142) (by decide +kernel)) rfl
set_option maxRecDepth 100000 in
theorem wini_X8 : Cond.initialized RX8 ∈ gw := gm (List.mem_of_getElem? (i := 114) (by decide +kernel)) rfl
theorem df_X8 : ∀ j, j < 8 → defaultValue (tyX8 j) = vp_V [.null, .null, .null, .null, .null, .null, .null, .int 0] j := by decide +kernel
theorem dX7_init_78 : decode cX7_init 78 = .ok (.dup, 1) := by decide +kernel
theorem dX7_init_79 : decode cX7_init 79 = .ok (.bipush 16, 2) := by decide +kernel
theorem dX7_init_81 : decode cX7_init 81 = .ok (.invokespecial 42, 3) := by decide +kernel
set_option maxRecDepth 100000 in
theorem wm_X7_42 : Cond.methodLink RX7 42 yX8_init ∈ gw := gm (List.mem_of_getElem? (i := 143) (by decide +kernel)) rfl
set_option maxRecDepth 100000 in
theorem mi_X8_init : MI yX8_init cX8_init 3 none 1 := ⟨gm (List.mem_of_getElem? (i := 145) rfl) rfl, gm (List.mem_of_getElem? (i := 114) (by decide +kernel)) rfl, by decide, by decide, by decide +kernel⟩
set_option maxRecDepth 100000 in
theorem in_X8_init : Cond.instanceMethod yX8_init ∈ gw := gm (List.mem_of_getElem? (i := 144) (by decide +kernel)) rfl
theorem dX7_init_84 : decode cX7_init 84 = .ok (.putfield 45, 3) := by decide +kernel
theorem dX7_init_87 : decode cX7_init 87 = .ok (.aload_n 0, 1) := by decide +kernel
theorem dX7_init_88 : decode cX7_init 88 = .ok (.new 49, 3) := by decide +kernel
set_option maxRecDepth 100000 in
theorem wcl_X7_49 : Cond.classLink RX7 49 RX3 ∈ gw := gm (List.mem_of_getElem? (i := 187) (by decide +kernel)) rfl
set_option maxRecDepth 100000 in
theorem wib_X3 : Cond.instantiable RX3 5 ∈ gw := gm (List.mem_of_getElem? (i := 188) (by decide +kernel)) rfl
set_option maxRecDepth 100000 in
theorem wini_X3 : Cond.initialized RX3 ∈ gw := gm (List.mem_of_getElem? (i := 116) (by decide +kernel)) rfl
theorem df_X3 : ∀ j, j < 5 → defaultValue (tyX3 j) = vp_V [.null, .null, .null, .null, .int 0] j := by decide +kernel
theorem dX7_init_91 : decode cX7_init 91 = .ok (.dup, 1) := by decide +kernel
theorem dX7_init_92 : decode cX7_init 92 = .ok (.invokespecial 51, 3) := by decide +kernel
set_option maxRecDepth 100000 in
theorem wm_X7_51 : Cond.methodLinkNest RX7 51 yX3_init "StoneTrust" ∈ nests := nm_ (List.mem_of_getElem? (i := 189) (by decide +kernel)) rfl
set_option maxRecDepth 100000 in
theorem mi_X3_init : MI yX3_init cX3_init 1 none 0 := ⟨gm (List.mem_of_getElem? (i := 191) rfl) rfl, gm (List.mem_of_getElem? (i := 116) (by decide +kernel)) rfl, by decide, by decide, by decide +kernel⟩
set_option maxRecDepth 100000 in
theorem in_X3_init : Cond.instanceMethod yX3_init ∈ gw := gm (List.mem_of_getElem? (i := 190) (by decide +kernel)) rfl
theorem dX7_init_95 : decode cX7_init 95 = .ok (.putfield 52, 3) := by decide +kernel
theorem dX7_init_98 : decode cX7_init 98 = .ok (.aload_n 0, 1) := by decide +kernel
theorem dX7_init_99 : decode cX7_init 99 = .ok (.invokevirtual 56, 3) := by decide +kernel
set_option maxRecDepth 100000 in
theorem wm_X7_56 : Cond.methodLink RX7 56 yX7_makeEmpty ∈ gw := gm (List.mem_of_getElem? (i := 216) (by decide +kernel)) rfl
set_option maxRecDepth 100000 in
theorem mi_X7_makeEmpty : MI yX7_makeEmpty cX7_makeEmpty 1 none 0 := ⟨gm (List.mem_of_getElem? (i := 219) rfl) rfl, gm (List.mem_of_getElem? (i := 113) (by decide +kernel)) rfl, by decide, by decide, by decide +kernel⟩
set_option maxRecDepth 100000 in
theorem in_X7_makeEmpty : Cond.instanceMethod yX7_makeEmpty ∈ gw := gm (List.mem_of_getElem? (i := 218) (by decide +kernel)) rfl
set_option maxRecDepth 100000 in
theorem se_X7_makeEmpty : Cond.selects yX7_makeEmpty.cls yX7_makeEmpty yX7_makeEmpty ∈ gw := gm (List.mem_of_getElem? (i := 0) (by decide +kernel)) rfl
theorem dX7_init_102 : decode cX7_init 102 = .ok (.return_, 1) := by decide +kernel
set_option maxHeartbeats 4000000 in
set_option maxRecDepth 100000 in
theorem c5_X7_init (l : Launch) (G : va_G) (cI cJ cB cZ : ClassId) (a0 : Nat) : Con l G (TY cI cJ cB cZ) yX7_init cX7_init 1 none ({ frames := 2, cells := 22, slots := 211, locals := 43 } : Room) [.ref a0] [(a0, .inr (7, [.int 0, .int 0, .int 0, .null, .null, .int 0, .null, .null, .null, .null, .null, .null, .null, .null, .null]))] (QV G (TY cI cJ cB cZ) (fun u : (Nat → Nat) => True) (fun u : (Nat → Nat) => [(a0, .inr (7, [.int 100, .int 100, .int 0, .ref (u 0), .ref (u 1), .int 0, .ref (u 2), .ref (u 3), .ref (u 4), .ref (u 5), .ref (u 6), .ref (u 7), .ref (u 8), .ref (u 9), .ref (u 10)])), ((u 0), .inl (cI, 2, .inl (upd (upd (fun _ => 0) 0 16) 1 16))), ((u 1), .inl (cI, 2, .inl (upd (upd (fun _ => 0) 0 16) 1 16))), ((u 9), .inr (8, [.ref (u 11), .ref (u 12), .ref (u 13), .ref (u 14), .ref (u 15), .ref (u 16), .ref (u 17), .int 0])), ((u 10), .inr (3, [.ref (u 18), .ref (u 19), .ref (u 20), .ref (u 21), .int 0]))])) := by
  refine k_met (by decide) (Nat.le_of_ble_eq_true rfl) ?_
  intro p e s m below meth c A ls hC hr hlk hnm hN hK hA hP hD hS hl
  have hl : lv_has ls 1 [(0, .ref a0)] := hl
  obtain ⟨hx, hb, hml, hown, hts⟩ := id hC
  refine lv_aload_n hx hb dX7_init_0 rfl (lv_at hl 0 rfl) ?_
  refine k_obj hC wm_X7_3 in_OBJ co_OBJ hl.1 dX7_init_1 (Nat.le_of_ble_eq_true rfl) (Nat.le_of_ble_eq_true rfl) ?_
  refine lv_aload_n hx hb dX7_init_4 rfl (lv_at hl 0 rfl) ?_
  refine lv_iconst (v := 2) hx hb dX7_init_5 (by decide) ?_
  refine k_newa (atype := .int) (a0 := (2, .inl (fun _ => 0))) hx hb (hts _ warr_I) rfl 0 rfl (fun h => h) hK hP hD hS hA (fun _ => rfl) (by decide +kernel) (by decide +kernel) (by decide) (Nat.le_of_ble_eq_true rfl) (Nat.le_of_ble_eq_true rfl) dX7_init_6 (fun q1 H hP hD hS => ?_)
  have hP : va_P G cl [(a0, .inr (7, [.int 0, .int 0, .int 0, .null, .null, .int 0, .null, .null, .null, .null, .null, .null, .null, .null, .null])), (q1, .inl (cI, 2, .inl (fun _ => 0)))] H := hP
  have hD : va_D A [(a0, .inr (7, [.int 0, .int 0, .int 0, .null, .null, .int 0, .null, .null, .null, .null, .null, .null, .null, .null, .null])), (q1, .inl (cI, 2, .inl (fun _ => 0)))] := hD
  refine k_putF hC hnm hK hP hD hS iX7 tyX7_ok nmX7 0 3 wf_X7_9 rfl (by decide) rfl rfl rfl rfl rfl (Nat.le_of_ble_eq_true rfl) dX7_init_8 (fun H locs hP hD hS => ?_)
  have hP : va_P G cl [(a0, .inr (7, [.int 0, .int 0, .int 0, .ref q1, .null, .int 0, .null, .null, .null, .null, .null, .null, .null, .null, .null])), (q1, .inl (cI, 2, .inl (fun _ => 0)))] H := hP
  have hD : va_D A [(a0, .inr (7, [.int 0, .int 0, .int 0, .ref q1, .null, .int 0, .null, .null, .null, .null, .null, .null, .null, .null, .null])), (q1, .inl (cI, 2, .inl (fun _ => 0)))] := hD
  refine lv_aload_n hx hb dX7_init_11 rfl (lv_at hl 0 rfl) ?_
  refine lv_iconst (v := 2) hx hb dX7_init_12 (by decide) ?_
  refine k_newa (atype := .int) (a0 := (2, .inl (fun _ => 0))) hx hb (hts _ warr_I) rfl 0 rfl (fun h => h) hK hP hD hS hA (fun _ => rfl) (by decide +kernel) (by decide +kernel) (by decide) (Nat.le_of_ble_eq_true rfl) (Nat.le_of_ble_eq_true rfl) dX7_init_13 (fun q2 H hP hD hS => ?_)
  have hP : va_P G cl [(a0, .inr (7, [.int 0, .int 0, .int 0, .ref q1, .null, .int 0, .null, .null, .null, .null, .null, .null, .null, .null, .null])), (q1, .inl (cI, 2, .inl (fun _ => 0))), (q2, .inl (cI, 2, .inl (fun _ => 0)))] H := hP
  have hD : va_D A [(a0, .inr (7, [.int 0, .int 0, .int 0, .ref q1, .null, .int 0, .null, .null, .null, .null, .null, .null, .null, .null, .null])), (q1, .inl (cI, 2, .inl (fun _ => 0))), (q2, .inl (cI, 2, .inl (fun _ => 0)))] := hD
  refine k_putF hC hnm hK hP hD hS iX7 tyX7_ok nmX7 0 4 wf_X7_15 rfl (by decide) rfl rfl rfl rfl rfl (Nat.le_of_ble_eq_true rfl) dX7_init_15 (fun H locs hP hD hS => ?_)
  have hP : va_P G cl [(a0, .inr (7, [.int 0, .int 0, .int 0, .ref q1, .ref q2, .int 0, .null, .null, .null, .null, .null, .null, .null, .null, .null])), (q1, .inl (cI, 2, .inl (fun _ => 0))), (q2, .inl (cI, 2, .inl (fun _ => 0)))] H := hP
  have hD : va_D A [(a0, .inr (7, [.int 0, .int 0, .int 0, .ref q1, .ref q2, .int 0, .null, .null, .null, .null, .null, .null, .null, .null, .null])), (q1, .inl (cI, 2, .inl (fun _ => 0))), (q2, .inl (cI, 2, .inl (fun _ => 0)))] := hD
  refine lv_aload_n hx hb dX7_init_18 rfl (lv_at hl 0 rfl) ?_
  refine lv_bipush (v := 6) hx hb dX7_init_19 (by decide) ?_
  refine k_newa (atype := .long) (a0 := (6, .inr (.inl (fun _ => 0)))) hx hb (hts _ warr_J) rfl 1 rfl (fun h => h) hK hP hD hS hA (fun _ => rfl) (by decide +kernel) (by decide +kernel) (by decide) (Nat.le_of_ble_eq_true rfl) (Nat.le_of_ble_eq_true rfl) dX7_init_21 (fun q3 H hP hD hS => ?_)
  have hP : va_P G cl [(a0, .inr (7, [.int 0, .int 0, .int 0, .ref q1, .ref q2, .int 0, .null, .null, .null, .null, .null, .null, .null, .null, .null])), (q1, .inl (cI, 2, .inl (fun _ => 0))), (q2, .inl (cI, 2, .inl (fun _ => 0))), (q3, .inl (cJ, 6, .inr (.inl (fun _ => 0))))] H := hP
  have hD : va_D A [(a0, .inr (7, [.int 0, .int 0, .int 0, .ref q1, .ref q2, .int 0, .null, .null, .null, .null, .null, .null, .null, .null, .null])), (q1, .inl (cI, 2, .inl (fun _ => 0))), (q2, .inl (cI, 2, .inl (fun _ => 0))), (q3, .inl (cJ, 6, .inr (.inl (fun _ => 0))))] := hD
  refine k_putF hC hnm hK hP hD hS iX7 tyX7_ok nmX7 0 6 wf_X7_18 rfl (by decide) rfl rfl rfl rfl rfl (Nat.le_of_ble_eq_true rfl) dX7_init_23 (fun H locs hP hD hS => ?_)
  have hP : va_P G cl [(a0, .inr (7, [.int 0, .int 0, .int 0, .ref q1, .ref q2, .int 0, .ref q3, .null, .null, .null, .null, .null, .null, .null, .null])), (q1, .inl (cI, 2, .inl (fun _ => 0))), (q2, .inl (cI, 2, .inl (fun _ => 0))), (q3, .inl (cJ, 6, .inr (.inl (fun _ => 0))))] H := hP
  have hD : va_D A [(a0, .inr (7, [.int 0, .int 0, .int 0, .ref q1, .ref q2, .int 0, .ref q3, .null, .null, .null, .null, .null, .null, .null, .null])), (q1, .inl (cI, 2, .inl (fun _ => 0))), (q2, .inl (cI, 2, .inl (fun _ => 0))), (q3, .inl (cJ, 6, .inr (.inl (fun _ => 0))))] := hD
  refine lv_aload_n hx hb dX7_init_26 rfl (lv_at hl 0 rfl) ?_
  refine lv_bipush (v := 6) hx hb dX7_init_27 (by decide) ?_
  refine k_newa (atype := .int) (a0 := (6, .inl (fun _ => 0))) hx hb (hts _ warr_I) rfl 0 rfl (fun h => h) hK hP hD hS hA (fun _ => rfl) (by decide +kernel) (by decide +kernel) (by decide) (Nat.le_of_ble_eq_true rfl) (Nat.le_of_ble_eq_true rfl) dX7_init_29 (fun q4 H hP hD hS => ?_)
  have hP : va_P G cl [(a0, .inr (7, [.int 0, .int 0, .int 0, .ref q1, .ref q2, .int 0, .ref q3, .null, .null, .null, .null, .null, .null, .null, .null])), (q1, .inl (cI, 2, .inl (fun _ => 0))), (q2, .inl (cI, 2, .inl (fun _ => 0))), (q3, .inl (cJ, 6, .inr (.inl (fun _ => 0)))), (q4, .inl (cI, 6, .inl (fun _ => 0)))] H := hP
  have hD : va_D A [(a0, .inr (7, [.int 0, .int 0, .int 0, .ref q1, .ref q2, .int 0, .ref q3, .null, .null, .null, .null, .null, .null, .null, .null])), (q1, .inl (cI, 2, .inl (fun _ => 0))), (q2, .inl (cI, 2, .inl (fun _ => 0))), (q3, .inl (cJ, 6, .inr (.inl (fun _ => 0)))), (q4, .inl (cI, 6, .inl (fun _ => 0)))] := hD
  refine k_putF hC hnm hK hP hD hS iX7 tyX7_ok nmX7 0 7 wf_X7_22 rfl (by decide) rfl rfl rfl rfl rfl (Nat.le_of_ble_eq_true rfl) dX7_init_31 (fun H locs hP hD hS => ?_)
  have hP : va_P G cl [(a0, .inr (7, [.int 0, .int 0, .int 0, .ref q1, .ref q2, .int 0, .ref q3, .ref q4, .null, .null, .null, .null, .null, .null, .null])), (q1, .inl (cI, 2, .inl (fun _ => 0))), (q2, .inl (cI, 2, .inl (fun _ => 0))), (q3, .inl (cJ, 6, .inr (.inl (fun _ => 0)))), (q4, .inl (cI, 6, .inl (fun _ => 0)))] H := hP
  have hD : va_D A [(a0, .inr (7, [.int 0, .int 0, .int 0, .ref q1, .ref q2, .int 0, .ref q3, .ref q4, .null, .null, .null, .null, .null, .null, .null])), (q1, .inl (cI, 2, .inl (fun _ => 0))), (q2, .inl (cI, 2, .inl (fun _ => 0))), (q3, .inl (cJ, 6, .inr (.inl (fun _ => 0)))), (q4, .inl (cI, 6, .inl (fun _ => 0)))] := hD
  refine lv_aload_n hx hb dX7_init_34 rfl (lv_at hl 0 rfl) ?_
  refine lv_bipush (v := 6) hx hb dX7_init_35 (by decide) ?_
  refine k_newa (atype := .int) (a0 := (6, .inl (fun _ => 0))) hx hb (hts _ warr_I) rfl 0 rfl (fun h => h) hK hP hD hS hA (fun _ => rfl) (by decide +kernel) (by decide +kernel) (by decide) (Nat.le_of_ble_eq_true rfl) (Nat.le_of_ble_eq_true rfl) dX7_init_37 (fun q5 H hP hD hS => ?_)
  have hP : va_P G cl [(a0, .inr (7, [.int 0, .int 0, .int 0, .ref q1, .ref q2, .int 0, .ref q3, .ref q4, .null, .null, .null, .null, .null, .null, .null])), (q1, .inl (cI, 2, .inl (fun _ => 0))), (q2, .inl (cI, 2, .inl (fun _ => 0))), (q3, .inl (cJ, 6, .inr (.inl (fun _ => 0)))), (q4, .inl (cI, 6, .inl (fun _ => 0))), (q5, .inl (cI, 6, .inl (fun _ => 0)))] H := hP
  have hD : va_D A [(a0, .inr (7, [.int 0, .int 0, .int 0, .ref q1, .ref q2, .int 0, .ref q3, .ref q4, .null, .null, .null, .null, .null, .null, .null])), (q1, .inl (cI, 2, .inl (fun _ => 0))), (q2, .inl (cI, 2, .inl (fun _ => 0))), (q3, .inl (cJ, 6, .inr (.inl (fun _ => 0)))), (q4, .inl (cI, 6, .inl (fun _ => 0))), (q5, .inl (cI, 6, .inl (fun _ => 0)))] := hD
  refine k_putF hC hnm hK hP hD hS iX7 tyX7_ok nmX7 0 8 wf_X7_25 rfl (by decide) rfl rfl rfl rfl rfl (Nat.le_of_ble_eq_true rfl) dX7_init_39 (fun H locs hP hD hS => ?_)
  have hP : va_P G cl [(a0, .inr (7, [.int 0, .int 0, .int 0, .ref q1, .ref q2, .int 0, .ref q3, .ref q4, .ref q5, .null, .null, .null, .null, .null, .null])), (q1, .inl (cI, 2, .inl (fun _ => 0))), (q2, .inl (cI, 2, .inl (fun _ => 0))), (q3, .inl (cJ, 6, .inr (.inl (fun _ => 0)))), (q4, .inl (cI, 6, .inl (fun _ => 0))), (q5, .inl (cI, 6, .inl (fun _ => 0)))] H := hP
  have hD : va_D A [(a0, .inr (7, [.int 0, .int 0, .int 0, .ref q1, .ref q2, .int 0, .ref q3, .ref q4, .ref q5, .null, .null, .null, .null, .null, .null])), (q1, .inl (cI, 2, .inl (fun _ => 0))), (q2, .inl (cI, 2, .inl (fun _ => 0))), (q3, .inl (cJ, 6, .inr (.inl (fun _ => 0)))), (q4, .inl (cI, 6, .inl (fun _ => 0))), (q5, .inl (cI, 6, .inl (fun _ => 0)))] := hD
  refine lv_aload_n hx hb dX7_init_42 rfl (lv_at hl 0 rfl) ?_
  refine lv_bipush (v := 6) hx hb dX7_init_43 (by decide) ?_
  refine k_newa (atype := .int) (a0 := (6, .inl (fun _ => 0))) hx hb (hts _ warr_I) rfl 0 rfl (fun h => h) hK hP hD hS hA (fun _ => rfl) (by decide +kernel) (by decide +kernel) (by decide) (Nat.le_of_ble_eq_true rfl) (Nat.le_of_ble_eq_true rfl) dX7_init_45 (fun q6 H hP hD hS => ?_)
  have hP : va_P G cl [(a0, .inr (7, [.int 0, .int 0, .int 0, .ref q1, .ref q2, .int 0, .ref q3, .ref q4, .ref q5, .null, .null, .null, .null, .null, .null])), (q1, .inl (cI, 2, .inl (fun _ => 0))), (q2, .inl (cI, 2, .inl (fun _ => 0))), (q3, .inl (cJ, 6, .inr (.inl (fun _ => 0)))), (q4, .inl (cI, 6, .inl (fun _ => 0))), (q5, .inl (cI, 6, .inl (fun _ => 0))), (q6, .inl (cI, 6, .inl (fun _ => 0)))] H := hP
  have hD : va_D A [(a0, .inr (7, [.int 0, .int 0, .int 0, .ref q1, .ref q2, .int 0, .ref q3, .ref q4, .ref q5, .null, .null, .null, .null, .null, .null])), (q1, .inl (cI, 2, .inl (fun _ => 0))), (q2, .inl (cI, 2, .inl (fun _ => 0))), (q3, .inl (cJ, 6, .inr (.inl (fun _ => 0)))), (q4, .inl (cI, 6, .inl (fun _ => 0))), (q5, .inl (cI, 6, .inl (fun _ => 0))), (q6, .inl (cI, 6, .inl (fun _ => 0)))] := hD
  refine k_putF hC hnm hK hP hD hS iX7 tyX7_ok nmX7 0 9 wf_X7_28 rfl (by decide) rfl rfl rfl rfl rfl (Nat.le_of_ble_eq_true rfl) dX7_init_47 (fun H locs hP hD hS => ?_)
  have hP : va_P G cl [(a0, .inr (7, [.int 0, .int 0, .int 0, .ref q1, .ref q2, .int 0, .ref q3, .ref q4, .ref q5, .ref q6, .null, .null, .null, .null, .null])), (q1, .inl (cI, 2, .inl (fun _ => 0))), (q2, .inl (cI, 2, .inl (fun _ => 0))), (q3, .inl (cJ, 6, .inr (.inl (fun _ => 0)))), (q4, .inl (cI, 6, .inl (fun _ => 0))), (q5, .inl (cI, 6, .inl (fun _ => 0))), (q6, .inl (cI, 6, .inl (fun _ => 0)))] H := hP
  have hD : va_D A [(a0, .inr (7, [.int 0, .int 0, .int 0, .ref q1, .ref q2, .int 0, .ref q3, .ref q4, .ref q5, .ref q6, .null, .null, .null, .null, .null])), (q1, .inl (cI, 2, .inl (fun _ => 0))), (q2, .inl (cI, 2, .inl (fun _ => 0))), (q3, .inl (cJ, 6, .inr (.inl (fun _ => 0)))), (q4, .inl (cI, 6, .inl (fun _ => 0))), (q5, .inl (cI, 6, .inl (fun _ => 0))), (q6, .inl (cI, 6, .inl (fun _ => 0)))] := hD
  refine lv_aload_n hx hb dX7_init_50 rfl (lv_at hl 0 rfl) ?_
  refine lv_bipush (v := 6) hx hb dX7_init_51 (by decide) ?_
  refine k_newa (atype := .int) (a0 := (6, .inl (fun _ => 0))) hx hb (hts _ warr_I) rfl 0 rfl (fun h => h) hK hP hD hS hA (fun _ => rfl) (by decide +kernel) (by decide +kernel) (by decide) (Nat.le_of_ble_eq_true rfl) (Nat.le_of_ble_eq_true rfl) dX7_init_53 (fun q7 H hP hD hS => ?_)
  have hP : va_P G cl [(a0, .inr (7, [.int 0, .int 0, .int 0, .ref q1, .ref q2, .int 0, .ref q3, .ref q4, .ref q5, .ref q6, .null, .null, .null, .null, .null])), (q1, .inl (cI, 2, .inl (fun _ => 0))), (q2, .inl (cI, 2, .inl (fun _ => 0))), (q3, .inl (cJ, 6, .inr (.inl (fun _ => 0)))), (q4, .inl (cI, 6, .inl (fun _ => 0))), (q5, .inl (cI, 6, .inl (fun _ => 0))), (q6, .inl (cI, 6, .inl (fun _ => 0))), (q7, .inl (cI, 6, .inl (fun _ => 0)))] H := hP
  have hD : va_D A [(a0, .inr (7, [.int 0, .int 0, .int 0, .ref q1, .ref q2, .int 0, .ref q3, .ref q4, .ref q5, .ref q6, .null, .null, .null, .null, .null])), (q1, .inl (cI, 2, .inl (fun _ => 0))), (q2, .inl (cI, 2, .inl (fun _ => 0))), (q3, .inl (cJ, 6, .inr (.inl (fun _ => 0)))), (q4, .inl (cI, 6, .inl (fun _ => 0))), (q5, .inl (cI, 6, .inl (fun _ => 0))), (q6, .inl (cI, 6, .inl (fun _ => 0))), (q7, .inl (cI, 6, .inl (fun _ => 0)))] := hD
  refine k_putF hC hnm hK hP hD hS iX7 tyX7_ok nmX7 0 10 wf_X7_31 rfl (by decide) rfl rfl rfl rfl rfl (Nat.le_of_ble_eq_true rfl) dX7_init_55 (fun H locs hP hD hS => ?_)
  have hP : va_P G cl [(a0, .inr (7, [.int 0, .int 0, .int 0, .ref q1, .ref q2, .int 0, .ref q3, .ref q4, .ref q5, .ref q6, .ref q7, .null, .null, .null, .null])), (q1, .inl (cI, 2, .inl (fun _ => 0))), (q2, .inl (cI, 2, .inl (fun _ => 0))), (q3, .inl (cJ, 6, .inr (.inl (fun _ => 0)))), (q4, .inl (cI, 6, .inl (fun _ => 0))), (q5, .inl (cI, 6, .inl (fun _ => 0))), (q6, .inl (cI, 6, .inl (fun _ => 0))), (q7, .inl (cI, 6, .inl (fun _ => 0)))] H := hP
  have hD : va_D A [(a0, .inr (7, [.int 0, .int 0, .int 0, .ref q1, .ref q2, .int 0, .ref q3, .ref q4, .ref q5, .ref q6, .ref q7, .null, .null, .null, .null])), (q1, .inl (cI, 2, .inl (fun _ => 0))), (q2, .inl (cI, 2, .inl (fun _ => 0))), (q3, .inl (cJ, 6, .inr (.inl (fun _ => 0)))), (q4, .inl (cI, 6, .inl (fun _ => 0))), (q5, .inl (cI, 6, .inl (fun _ => 0))), (q6, .inl (cI, 6, .inl (fun _ => 0))), (q7, .inl (cI, 6, .inl (fun _ => 0)))] := hD
  refine lv_aload_n hx hb dX7_init_58 rfl (lv_at hl 0 rfl) ?_
  refine lv_bipush (v := 6) hx hb dX7_init_59 (by decide) ?_
  refine k_newa (atype := .int) (a0 := (6, .inl (fun _ => 0))) hx hb (hts _ warr_I) rfl 0 rfl (fun h => h) hK hP hD hS hA (fun _ => rfl) (by decide +kernel) (by decide +kernel) (by decide) (Nat.le_of_ble_eq_true rfl) (Nat.le_of_ble_eq_true rfl) dX7_init_61 (fun q8 H hP hD hS => ?_)
  have hP : va_P G cl [(a0, .inr (7, [.int 0, .int 0, .int 0, .ref q1, .ref q2, .int 0, .ref q3, .ref q4, .ref q5, .ref q6, .ref q7, .null, .null, .null, .null])), (q1, .inl (cI, 2, .inl (fun _ => 0))), (q2, .inl (cI, 2, .inl (fun _ => 0))), (q3, .inl (cJ, 6, .inr (.inl (fun _ => 0)))), (q4, .inl (cI, 6, .inl (fun _ => 0))), (q5, .inl (cI, 6, .inl (fun _ => 0))), (q6, .inl (cI, 6, .inl (fun _ => 0))), (q7, .inl (cI, 6, .inl (fun _ => 0))), (q8, .inl (cI, 6, .inl (fun _ => 0)))] H := hP
  have hD : va_D A [(a0, .inr (7, [.int 0, .int 0, .int 0, .ref q1, .ref q2, .int 0, .ref q3, .ref q4, .ref q5, .ref q6, .ref q7, .null, .null, .null, .null])), (q1, .inl (cI, 2, .inl (fun _ => 0))), (q2, .inl (cI, 2, .inl (fun _ => 0))), (q3, .inl (cJ, 6, .inr (.inl (fun _ => 0)))), (q4, .inl (cI, 6, .inl (fun _ => 0))), (q5, .inl (cI, 6, .inl (fun _ => 0))), (q6, .inl (cI, 6, .inl (fun _ => 0))), (q7, .inl (cI, 6, .inl (fun _ => 0))), (q8, .inl (cI, 6, .inl (fun _ => 0)))] := hD
  refine k_putF hC hnm hK hP hD hS iX7 tyX7_ok nmX7 0 11 wf_X7_34 rfl (by decide) rfl rfl rfl rfl rfl (Nat.le_of_ble_eq_true rfl) dX7_init_63 (fun H locs hP hD hS => ?_)
  have hP : va_P G cl [(a0, .inr (7, [.int 0, .int 0, .int 0, .ref q1, .ref q2, .int 0, .ref q3, .ref q4, .ref q5, .ref q6, .ref q7, .ref q8, .null, .null, .null])), (q1, .inl (cI, 2, .inl (fun _ => 0))), (q2, .inl (cI, 2, .inl (fun _ => 0))), (q3, .inl (cJ, 6, .inr (.inl (fun _ => 0)))), (q4, .inl (cI, 6, .inl (fun _ => 0))), (q5, .inl (cI, 6, .inl (fun _ => 0))), (q6, .inl (cI, 6, .inl (fun _ => 0))), (q7, .inl (cI, 6, .inl (fun _ => 0))), (q8, .inl (cI, 6, .inl (fun _ => 0)))] H := hP
  have hD : va_D A [(a0, .inr (7, [.int 0, .int 0, .int 0, .ref q1, .ref q2, .int 0, .ref q3, .ref q4, .ref q5, .ref q6, .ref q7, .ref q8, .null, .null, .null])), (q1, .inl (cI, 2, .inl (fun _ => 0))), (q2, .inl (cI, 2, .inl (fun _ => 0))), (q3, .inl (cJ, 6, .inr (.inl (fun _ => 0)))), (q4, .inl (cI, 6, .inl (fun _ => 0))), (q5, .inl (cI, 6, .inl (fun _ => 0))), (q6, .inl (cI, 6, .inl (fun _ => 0))), (q7, .inl (cI, 6, .inl (fun _ => 0))), (q8, .inl (cI, 6, .inl (fun _ => 0)))] := hD
  refine lv_aload_n hx hb dX7_init_66 rfl (lv_at hl 0 rfl) ?_
  refine lv_bipush (v := 6) hx hb dX7_init_67 (by decide) ?_
  refine k_newa (atype := .int) (a0 := (6, .inl (fun _ => 0))) hx hb (hts _ warr_I) rfl 0 rfl (fun h => h) hK hP hD hS hA (fun _ => rfl) (by decide +kernel) (by decide +kernel) (by decide) (Nat.le_of_ble_eq_true rfl) (Nat.le_of_ble_eq_true rfl) dX7_init_69 (fun q9 H hP hD hS => ?_)
  have hP : va_P G cl [(a0, .inr (7, [.int 0, .int 0, .int 0, .ref q1, .ref q2, .int 0, .ref q3, .ref q4, .ref q5, .ref q6, .ref q7, .ref q8, .null, .null, .null])), (q1, .inl (cI, 2, .inl (fun _ => 0))), (q2, .inl (cI, 2, .inl (fun _ => 0))), (q3, .inl (cJ, 6, .inr (.inl (fun _ => 0)))), (q4, .inl (cI, 6, .inl (fun _ => 0))), (q5, .inl (cI, 6, .inl (fun _ => 0))), (q6, .inl (cI, 6, .inl (fun _ => 0))), (q7, .inl (cI, 6, .inl (fun _ => 0))), (q8, .inl (cI, 6, .inl (fun _ => 0))), (q9, .inl (cI, 6, .inl (fun _ => 0)))] H := hP
  have hD : va_D A [(a0, .inr (7, [.int 0, .int 0, .int 0, .ref q1, .ref q2, .int 0, .ref q3, .ref q4, .ref q5, .ref q6, .ref q7, .ref q8, .null, .null, .null])), (q1, .inl (cI, 2, .inl (fun _ => 0))), (q2, .inl (cI, 2, .inl (fun _ => 0))), (q3, .inl (cJ, 6, .inr (.inl (fun _ => 0)))), (q4, .inl (cI, 6, .inl (fun _ => 0))), (q5, .inl (cI, 6, .inl (fun _ => 0))), (q6, .inl (cI, 6, .inl (fun _ => 0))), (q7, .inl (cI, 6, .inl (fun _ => 0))), (q8, .inl (cI, 6, .inl (fun _ => 0))), (q9, .inl (cI, 6, .inl (fun _ => 0)))] := hD
  refine k_putF hC hnm hK hP hD hS iX7 tyX7_ok nmX7 0 12 wf_X7_37 rfl (by decide) rfl rfl rfl rfl rfl (Nat.le_of_ble_eq_true rfl) dX7_init_71 (fun H locs hP hD hS => ?_)
  have hP : va_P G cl [(a0, .inr (7, [.int 0, .int 0, .int 0, .ref q1, .ref q2, .int 0, .ref q3, .ref q4, .ref q5, .ref q6, .ref q7, .ref q8, .ref q9, .null, .null])), (q1, .inl (cI, 2, .inl (fun _ => 0))), (q2, .inl (cI, 2, .inl (fun _ => 0))), (q3, .inl (cJ, 6, .inr (.inl (fun _ => 0)))), (q4, .inl (cI, 6, .inl (fun _ => 0))), (q5, .inl (cI, 6, .inl (fun _ => 0))), (q6, .inl (cI, 6, .inl (fun _ => 0))), (q7, .inl (cI, 6, .inl (fun _ => 0))), (q8, .inl (cI, 6, .inl (fun _ => 0))), (q9, .inl (cI, 6, .inl (fun _ => 0)))] H := hP
  have hD : va_D A [(a0, .inr (7, [.int 0, .int 0, .int 0, .ref q1, .ref q2, .int 0, .ref q3, .ref q4, .ref q5, .ref q6, .ref q7, .ref q8, .ref q9, .null, .null])), (q1, .inl (cI, 2, .inl (fun _ => 0))), (q2, .inl (cI, 2, .inl (fun _ => 0))), (q3, .inl (cJ, 6, .inr (.inl (fun _ => 0)))), (q4, .inl (cI, 6, .inl (fun _ => 0))), (q5, .inl (cI, 6, .inl (fun _ => 0))), (q6, .inl (cI, 6, .inl (fun _ => 0))), (q7, .inl (cI, 6, .inl (fun _ => 0))), (q8, .inl (cI, 6, .inl (fun _ => 0))), (q9, .inl (cI, 6, .inl (fun _ => 0)))] := hD
  refine lv_aload_n hx hb dX7_init_74 rfl (lv_at hl 0 rfl) ?_
  refine k_new (ci := 8) hC hK hP hD hS hA iX8 tyX8_ok wcl_X7_40 wib_X8 wini_X8 rfl df_X8 (Nat.le_of_ble_eq_true rfl) (Nat.le_of_ble_eq_true rfl) dX7_init_75 (fun q10 H hP hD hS => ?_)
  have hP : va_P G cl [(a0, .inr (7, [.int 0, .int 0, .int 0, .ref q1, .ref q2, .int 0, .ref q3, .ref q4, .ref q5, .ref q6, .ref q7, .ref q8, .ref q9, .null, .null])), (q1, .inl (cI, 2, .inl (fun _ => 0))), (q2, .inl (cI, 2, .inl (fun _ => 0))), (q3, .inl (cJ, 6, .inr (.inl (fun _ => 0)))), (q4, .inl (cI, 6, .inl (fun _ => 0))), (q5, .inl (cI, 6, .inl (fun _ => 0))), (q6, .inl (cI, 6, .inl (fun _ => 0))), (q7, .inl (cI, 6, .inl (fun _ => 0))), (q8, .inl (cI, 6, .inl (fun _ => 0))), (q9, .inl (cI, 6, .inl (fun _ => 0))), (q10, .inr (8, [.null, .null, .null, .null, .null, .null, .null, .int 0]))] H := hP
  have hD : va_D A [(a0, .inr (7, [.int 0, .int 0, .int 0, .ref q1, .ref q2, .int 0, .ref q3, .ref q4, .ref q5, .ref q6, .ref q7, .ref q8, .ref q9, .null, .null])), (q1, .inl (cI, 2, .inl (fun _ => 0))), (q2, .inl (cI, 2, .inl (fun _ => 0))), (q3, .inl (cJ, 6, .inr (.inl (fun _ => 0)))), (q4, .inl (cI, 6, .inl (fun _ => 0))), (q5, .inl (cI, 6, .inl (fun _ => 0))), (q6, .inl (cI, 6, .inl (fun _ => 0))), (q7, .inl (cI, 6, .inl (fun _ => 0))), (q8, .inl (cI, 6, .inl (fun _ => 0))), (q9, .inl (cI, 6, .inl (fun _ => 0))), (q10, .inr (8, [.null, .null, .null, .null, .null, .null, .null, .int 0]))] := hD
  refine lv_dup hx hb dX7_init_78 rfl ?_
  refine lv_bipush (v := 16) hx hb dX7_init_79 (by decide) ?_
  refine k_cv (wr := [(a0, .inr (7, [.int 0, .int 0, .int 0, .ref q1, .ref q2, .int 0, .ref q3, .ref q4, .ref q5, .ref q6, .ref q7, .ref q8, .ref q9, .null, .null])), (q1, .inl (cI, 2, .inl (fun _ => 0))), (q2, .inl (cI, 2, .inl (fun _ => 0))), (q3, .inl (cJ, 6, .inr (.inl (fun _ => 0)))), (q4, .inl (cI, 6, .inl (fun _ => 0))), (q5, .inl (cI, 6, .inl (fun _ => 0))), (q6, .inl (cI, 6, .inl (fun _ => 0))), (q7, .inl (cI, 6, .inl (fun _ => 0))), (q8, .inl (cI, 6, .inl (fun _ => 0))), (q9, .inl (cI, 6, .inl (fun _ => 0)))]) (k_rI hC hN hK hP hD (c1_X8_init l G cI cJ cB cZ q10) [10] rfl (by decide) mi_X8_init in_X8_init rfl wm_X7_42 hl.1 rfl rfl (Nat.le_of_ble_eq_true rfl) ⟨(Nat.le_of_ble_eq_true rfl), (Nat.le_of_ble_eq_true rfl)⟩ dX7_init_81 ⟨(Nat.le_of_ble_eq_true rfl), (Nat.le_of_ble_eq_true rfl)⟩) hP hD hS hA [10] [0, 1, 2, 3, 4, 5, 6, 7, 8, 9] rfl rfl (by decide) (by decide) (fun u11 H locs hp hP hD hS => ?_)
  have hP : va_P G cl [(a0, .inr (7, [.int 0, .int 0, .int 0, .ref q1, .ref q2, .int 0, .ref q3, .ref q4, .ref q5, .ref q6, .ref q7, .ref q8, .ref q9, .null, .null])), (q1, .inl (cI, 2, .inl (fun _ => 0))), (q2, .inl (cI, 2, .inl (fun _ => 0))), (q3, .inl (cJ, 6, .inr (.inl (fun _ => 0)))), (q4, .inl (cI, 6, .inl (fun _ => 0))), (q5, .inl (cI, 6, .inl (fun _ => 0))), (q6, .inl (cI, 6, .inl (fun _ => 0))), (q7, .inl (cI, 6, .inl (fun _ => 0))), (q8, .inl (cI, 6, .inl (fun _ => 0))), (q9, .inl (cI, 6, .inl (fun _ => 0))), (q10, .inr (8, [.ref (u11 0), .ref (u11 1), .ref (u11 2), .ref (u11 3), .ref (u11 4), .ref (u11 5), .ref (u11 6), .int 0]))] H := hP
  have hD : va_D A [(a0, .inr (7, [.int 0, .int 0, .int 0, .ref q1, .ref q2, .int 0, .ref q3, .ref q4, .ref q5, .ref q6, .ref q7, .ref q8, .ref q9, .null, .null])), (q1, .inl (cI, 2, .inl (fun _ => 0))), (q2, .inl (cI, 2, .inl (fun _ => 0))), (q3, .inl (cJ, 6, .inr (.inl (fun _ => 0)))), (q4, .inl (cI, 6, .inl (fun _ => 0))), (q5, .inl (cI, 6, .inl (fun _ => 0))), (q6, .inl (cI, 6, .inl (fun _ => 0))), (q7, .inl (cI, 6, .inl (fun _ => 0))), (q8, .inl (cI, 6, .inl (fun _ => 0))), (q9, .inl (cI, 6, .inl (fun _ => 0))), (q10, .inr (8, [.ref (u11 0), .ref (u11 1), .ref (u11 2), .ref (u11 3), .ref (u11 4), .ref (u11 5), .ref (u11 6), .int 0]))] := hD
  refine k_putF hC hnm hK hP hD hS iX7 tyX7_ok nmX7 0 13 wf_X7_45 rfl (by decide) rfl rfl rfl rfl rfl (Nat.le_of_ble_eq_true rfl) dX7_init_84 (fun H locs hP hD hS => ?_)
  have hP : va_P G cl [(a0, .inr (7, [.int 0, .int 0, .int 0, .ref q1, .ref q2, .int 0, .ref q3, .ref q4, .ref q5, .ref q6, .ref q7, .ref q8, .ref q9, .ref q10, .null])), (q1, .inl (cI, 2, .inl (fun _ => 0))), (q2, .inl (cI, 2, .inl (fun _ => 0))), (q3, .inl (cJ, 6, .inr (.inl (fun _ => 0)))), (q4, .inl (cI, 6, .inl (fun _ => 0))), (q5, .inl (cI, 6, .inl (fun _ => 0))), (q6, .inl (cI, 6, .inl (fun _ => 0))), (q7, .inl (cI, 6, .inl (fun _ => 0))), (q8, .inl (cI, 6, .inl (fun _ => 0))), (q9, .inl (cI, 6, .inl (fun _ => 0))), (q10, .inr (8, [.ref (u11 0), .ref (u11 1), .ref (u11 2), .ref (u11 3), .ref (u11 4), .ref (u11 5), .ref (u11 6), .int 0]))] H := hP
  have hD : va_D A [(a0, .inr (7, [.int 0, .int 0, .int 0, .ref q1, .ref q2, .int 0, .ref q3, .ref q4, .ref q5, .ref q6, .ref q7, .ref q8, .ref q9, .ref q10, .null])), (q1, .inl (cI, 2, .inl (fun _ => 0))), (q2, .inl (cI, 2, .inl (fun _ => 0))), (q3, .inl (cJ, 6, .inr (.inl (fun _ => 0)))), (q4, .inl (cI, 6, .inl (fun _ => 0))), (q5, .inl (cI, 6, .inl (fun _ => 0))), (q6, .inl (cI, 6, .inl (fun _ => 0))), (q7, .inl (cI, 6, .inl (fun _ => 0))), (q8, .inl (cI, 6, .inl (fun _ => 0))), (q9, .inl (cI, 6, .inl (fun _ => 0))), (q10, .inr (8, [.ref (u11 0), .ref (u11 1), .ref (u11 2), .ref (u11 3), .ref (u11 4), .ref (u11 5), .ref (u11 6), .int 0]))] := hD
  refine lv_aload_n hx hb dX7_init_87 rfl (lv_at hl 0 rfl) ?_
  refine k_new (ci := 3) hC hK hP hD hS hA iX3 tyX3_ok wcl_X7_49 wib_X3 wini_X3 rfl df_X3 (Nat.le_of_ble_eq_true rfl) (Nat.le_of_ble_eq_true rfl) dX7_init_88 (fun q12 H hP hD hS => ?_)
  have hP : va_P G cl [(a0, .inr (7, [.int 0, .int 0, .int 0, .ref q1, .ref q2, .int 0, .ref q3, .ref q4, .ref q5, .ref q6, .ref q7, .ref q8, .ref q9, .ref q10, .null])), (q1, .inl (cI, 2, .inl (fun _ => 0))), (q2, .inl (cI, 2, .inl (fun _ => 0))), (q3, .inl (cJ, 6, .inr (.inl (fun _ => 0)))), (q4, .inl (cI, 6, .inl (fun _ => 0))), (q5, .inl (cI, 6, .inl (fun _ => 0))), (q6, .inl (cI, 6, .inl (fun _ => 0))), (q7, .inl (cI, 6, .inl (fun _ => 0))), (q8, .inl (cI, 6, .inl (fun _ => 0))), (q9, .inl (cI, 6, .inl (fun _ => 0))), (q10, .inr (8, [.ref (u11 0), .ref (u11 1), .ref (u11 2), .ref (u11 3), .ref (u11 4), .ref (u11 5), .ref (u11 6), .int 0])), (q12, .inr (3, [.null, .null, .null, .null, .int 0]))] H := hP
  have hD : va_D A [(a0, .inr (7, [.int 0, .int 0, .int 0, .ref q1, .ref q2, .int 0, .ref q3, .ref q4, .ref q5, .ref q6, .ref q7, .ref q8, .ref q9, .ref q10, .null])), (q1, .inl (cI, 2, .inl (fun _ => 0))), (q2, .inl (cI, 2, .inl (fun _ => 0))), (q3, .inl (cJ, 6, .inr (.inl (fun _ => 0)))), (q4, .inl (cI, 6, .inl (fun _ => 0))), (q5, .inl (cI, 6, .inl (fun _ => 0))), (q6, .inl (cI, 6, .inl (fun _ => 0))), (q7, .inl (cI, 6, .inl (fun _ => 0))), (q8, .inl (cI, 6, .inl (fun _ => 0))), (q9, .inl (cI, 6, .inl (fun _ => 0))), (q10, .inr (8, [.ref (u11 0), .ref (u11 1), .ref (u11 2), .ref (u11 3), .ref (u11 4), .ref (u11 5), .ref (u11 6), .int 0])), (q12, .inr (3, [.null, .null, .null, .null, .int 0]))] := hD
  refine lv_dup hx hb dX7_init_91 rfl ?_
  refine k_cv (wr := [(a0, .inr (7, [.int 0, .int 0, .int 0, .ref q1, .ref q2, .int 0, .ref q3, .ref q4, .ref q5, .ref q6, .ref q7, .ref q8, .ref q9, .ref q10, .null])), (q1, .inl (cI, 2, .inl (fun _ => 0))), (q2, .inl (cI, 2, .inl (fun _ => 0))), (q3, .inl (cJ, 6, .inr (.inl (fun _ => 0)))), (q4, .inl (cI, 6, .inl (fun _ => 0))), (q5, .inl (cI, 6, .inl (fun _ => 0))), (q6, .inl (cI, 6, .inl (fun _ => 0))), (q7, .inl (cI, 6, .inl (fun _ => 0))), (q8, .inl (cI, 6, .inl (fun _ => 0))), (q9, .inl (cI, 6, .inl (fun _ => 0))), (q10, .inr (8, [.ref (u11 0), .ref (u11 1), .ref (u11 2), .ref (u11 3), .ref (u11 4), .ref (u11 5), .ref (u11 6), .int 0]))]) (k_rIN hC hN hK hP hD (c2_X3_init l G cI cJ cB cZ q12) [11] rfl (by decide) mi_X3_init in_X3_init rfl wm_X7_51 hl.1 rfl rfl (Nat.le_of_ble_eq_true rfl) ⟨(Nat.le_of_ble_eq_true rfl), (Nat.le_of_ble_eq_true rfl)⟩ dX7_init_92 ⟨(Nat.le_of_ble_eq_true rfl), (Nat.le_of_ble_eq_true rfl)⟩) hP hD hS hA [11] [0, 1, 2, 3, 4, 5, 6, 7, 8, 9, 10] rfl rfl (by decide) (by decide) (fun u13 H locs hp hP hD hS => ?_)
  have hP : va_P G cl [(a0, .inr (7, [.int 0, .int 0, .int 0, .ref q1, .ref q2, .int 0, .ref q3, .ref q4, .ref q5, .ref q6, .ref q7, .ref q8, .ref q9, .ref q10, .null])), (q1, .inl (cI, 2, .inl (fun _ => 0))), (q2, .inl (cI, 2, .inl (fun _ => 0))), (q3, .inl (cJ, 6, .inr (.inl (fun _ => 0)))), (q4, .inl (cI, 6, .inl (fun _ => 0))), (q5, .inl (cI, 6, .inl (fun _ => 0))), (q6, .inl (cI, 6, .inl (fun _ => 0))), (q7, .inl (cI, 6, .inl (fun _ => 0))), (q8, .inl (cI, 6, .inl (fun _ => 0))), (q9, .inl (cI, 6, .inl (fun _ => 0))), (q10, .inr (8, [.ref (u11 0), .ref (u11 1), .ref (u11 2), .ref (u11 3), .ref (u11 4), .ref (u11 5), .ref (u11 6), .int 0])), (q12, .inr (3, [.ref (u13 0), .ref (u13 1), .ref (u13 2), .ref (u13 3), .int 0]))] H := hP
  have hD : va_D A [(a0, .inr (7, [.int 0, .int 0, .int 0, .ref q1, .ref q2, .int 0, .ref q3, .ref q4, .ref q5, .ref q6, .ref q7, .ref q8, .ref q9, .ref q10, .null])), (q1, .inl (cI, 2, .inl (fun _ => 0))), (q2, .inl (cI, 2, .inl (fun _ => 0))), (q3, .inl (cJ, 6, .inr (.inl (fun _ => 0)))), (q4, .inl (cI, 6, .inl (fun _ => 0))), (q5, .inl (cI, 6, .inl (fun _ => 0))), (q6, .inl (cI, 6, .inl (fun _ => 0))), (q7, .inl (cI, 6, .inl (fun _ => 0))), (q8, .inl (cI, 6, .inl (fun _ => 0))), (q9, .inl (cI, 6, .inl (fun _ => 0))), (q10, .inr (8, [.ref (u11 0), .ref (u11 1), .ref (u11 2), .ref (u11 3), .ref (u11 4), .ref (u11 5), .ref (u11 6), .int 0])), (q12, .inr (3, [.ref (u13 0), .ref (u13 1), .ref (u13 2), .ref (u13 3), .int 0]))] := hD
  refine k_putF hC hnm hK hP hD hS iX7 tyX7_ok nmX7 0 14 wf_X7_52 rfl (by decide) rfl rfl rfl rfl rfl (Nat.le_of_ble_eq_true rfl) dX7_init_95 (fun H locs hP hD hS => ?_)
  have hP : va_P G cl [(a0, .inr (7, [.int 0, .int 0, .int 0, .ref q1, .ref q2, .int 0, .ref q3, .ref q4, .ref q5, .ref q6, .ref q7, .ref q8, .ref q9, .ref q10, .ref q12])), (q1, .inl (cI, 2, .inl (fun _ => 0))), (q2, .inl (cI, 2, .inl (fun _ => 0))), (q3, .inl (cJ, 6, .inr (.inl (fun _ => 0)))), (q4, .inl (cI, 6, .inl (fun _ => 0))), (q5, .inl (cI, 6, .inl (fun _ => 0))), (q6, .inl (cI, 6, .inl (fun _ => 0))), (q7, .inl (cI, 6, .inl (fun _ => 0))), (q8, .inl (cI, 6, .inl (fun _ => 0))), (q9, .inl (cI, 6, .inl (fun _ => 0))), (q10, .inr (8, [.ref (u11 0), .ref (u11 1), .ref (u11 2), .ref (u11 3), .ref (u11 4), .ref (u11 5), .ref (u11 6), .int 0])), (q12, .inr (3, [.ref (u13 0), .ref (u13 1), .ref (u13 2), .ref (u13 3), .int 0]))] H := hP
  have hD : va_D A [(a0, .inr (7, [.int 0, .int 0, .int 0, .ref q1, .ref q2, .int 0, .ref q3, .ref q4, .ref q5, .ref q6, .ref q7, .ref q8, .ref q9, .ref q10, .ref q12])), (q1, .inl (cI, 2, .inl (fun _ => 0))), (q2, .inl (cI, 2, .inl (fun _ => 0))), (q3, .inl (cJ, 6, .inr (.inl (fun _ => 0)))), (q4, .inl (cI, 6, .inl (fun _ => 0))), (q5, .inl (cI, 6, .inl (fun _ => 0))), (q6, .inl (cI, 6, .inl (fun _ => 0))), (q7, .inl (cI, 6, .inl (fun _ => 0))), (q8, .inl (cI, 6, .inl (fun _ => 0))), (q9, .inl (cI, 6, .inl (fun _ => 0))), (q10, .inr (8, [.ref (u11 0), .ref (u11 1), .ref (u11 2), .ref (u11 3), .ref (u11 4), .ref (u11 5), .ref (u11 6), .int 0])), (q12, .inr (3, [.ref (u13 0), .ref (u13 1), .ref (u13 2), .ref (u13 3), .int 0]))] := hD
  refine lv_aload_n hx hb dX7_init_98 rfl (lv_at hl 0 rfl) ?_
  refine k_cv (wr := [(q3, .inl (cJ, 6, .inr (.inl (fun _ => 0)))), (q4, .inl (cI, 6, .inl (fun _ => 0))), (q5, .inl (cI, 6, .inl (fun _ => 0))), (q6, .inl (cI, 6, .inl (fun _ => 0))), (q7, .inl (cI, 6, .inl (fun _ => 0))), (q8, .inl (cI, 6, .inl (fun _ => 0))), (q9, .inl (cI, 6, .inl (fun _ => 0)))]) (k_rV hC hN hK hP hD (c4_X7_makeEmpty l G cI cJ cB cZ a0 q1 q2 q3 q4 q5 q6 q7 q8 q9 q10 q12 (u11 0) (u11 1) (u11 2) (u11 3) (u11 4) (u11 5) (u11 6) (u13 0) (u13 1) (u13 2) (u13 3)) [0, 1, 2, 10, 11] rfl (by decide) mi_X7_makeEmpty in_X7_makeEmpty se_X7_makeEmpty wm_X7_56 7 0 rfl rfl rfl hl.1 rfl rfl (Nat.le_of_ble_eq_true rfl) ⟨(Nat.le_of_ble_eq_true rfl), (Nat.le_of_ble_eq_true rfl)⟩ dX7_init_99 ⟨(Nat.le_of_ble_eq_true rfl), (Nat.le_of_ble_eq_true rfl)⟩) hP hD hS hA [0, 1, 2, 10, 11] [3, 4, 5, 6, 7, 8, 9] rfl rfl (by decide) (by decide) (fun u14 H locs hp hP hD hS => ?_)
  have hP : va_P G cl [(q3, .inl (cJ, 6, .inr (.inl (fun _ => 0)))), (q4, .inl (cI, 6, .inl (fun _ => 0))), (q5, .inl (cI, 6, .inl (fun _ => 0))), (q6, .inl (cI, 6, .inl (fun _ => 0))), (q7, .inl (cI, 6, .inl (fun _ => 0))), (q8, .inl (cI, 6, .inl (fun _ => 0))), (q9, .inl (cI, 6, .inl (fun _ => 0))), (a0, .inr (7, [.int 100, .int 100, .int 0, .ref q1, .ref q2, .int 0, .ref q3, .ref q4, .ref q5, .ref q6, .ref q7, .ref q8, .ref q9, .ref q10, .ref q12])), (q1, .inl (cI, 2, .inl (upd (upd (fun _ => 0) 0 16) 1 16))), (q2, .inl (cI, 2, .inl (upd (upd (fun _ => 0) 0 16) 1 16))), (q10, .inr (8, [.ref (u11 0), .ref (u11 1), .ref (u11 2), .ref (u11 3), .ref (u11 4), .ref (u11 5), .ref (u11 6), .int 0])), (q12, .inr (3, [.ref (u13 0), .ref (u13 1), .ref (u13 2), .ref (u13 3), .int 0]))] H := hP
  have hD : va_D A [(q3, .inl (cJ, 6, .inr (.inl (fun _ => 0)))), (q4, .inl (cI, 6, .inl (fun _ => 0))), (q5, .inl (cI, 6, .inl (fun _ => 0))), (q6, .inl (cI, 6, .inl (fun _ => 0))), (q7, .inl (cI, 6, .inl (fun _ => 0))), (q8, .inl (cI, 6, .inl (fun _ => 0))), (q9, .inl (cI, 6, .inl (fun _ => 0))), (a0, .inr (7, [.int 100, .int 100, .int 0, .ref q1, .ref q2, .int 0, .ref q3, .ref q4, .ref q5, .ref q6, .ref q7, .ref q8, .ref q9, .ref q10, .ref q12])), (q1, .inl (cI, 2, .inl (upd (upd (fun _ => 0) 0 16) 1 16))), (q2, .inl (cI, 2, .inl (upd (upd (fun _ => 0) 0 16) 1 16))), (q10, .inr (8, [.ref (u11 0), .ref (u11 1), .ref (u11 2), .ref (u11 3), .ref (u11 4), .ref (u11 5), .ref (u11 6), .int 0])), (q12, .inr (3, [.ref (u13 0), .ref (u13 1), .ref (u13 2), .ref (u13 3), .int 0]))] := hD
  exact k_vret hC hr hlk hK hP hD hS (fun k => [q1, q2, q3, q4, q5, q6, q7, q8, q9, q10, q12, (u11 0), (u11 1), (u11 2), (u11 3), (u11 4), (u11 5), (u11 6), (u13 0), (u13 1), (u13 2), (u13 3)].getD k 0) [7, 8, 9, 10, 11] rfl (by decide) trivial (Nat.le_of_ble_eq_true rfl) (Nat.le_of_ble_eq_true rfl) dX7_init_102

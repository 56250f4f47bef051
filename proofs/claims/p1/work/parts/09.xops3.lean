theorem dX7_liarsOf_0 : decode cX7_liarsOf 0 = .ok (.iconst 0, 1) := by decide +kernel
theorem dX7_liarsOf_1 : decode cX7_liarsOf 1 = .ok (.istore_n 3, 1) := by decide +kernel
theorem dX7_liarsOf_2 : decode cX7_liarsOf 2 = .ok (.iconst 0, 1) := by decide +kernel
theorem dX7_liarsOf_3 : decode cX7_liarsOf 3 = .ok (.istore 4, 2) := by decide +kernel
theorem dX7_liarsOf_5 : decode cX7_liarsOf 5 = .ok (.iload 4, 2) := by decide +kernel
theorem dX7_liarsOf_7 : decode cX7_liarsOf 7 = .ok (.aload_n 0, 1) := by decide +kernel
theorem dX7_liarsOf_8 : decode cX7_liarsOf 8 = .ok (.getfield 75, 3) := by decide +kernel
theorem dX7_liarsOf_11 : decode cX7_liarsOf 11 = .ok (.if_icmp .ge 45, 3) := by decide +kernel
theorem dX7_liarsOf_56 : decode cX7_liarsOf 56 = .ok (.iload_n 3, 1) := by decide +kernel
theorem dX7_liarsOf_57 : decode cX7_liarsOf 57 = .ok (.ireturn, 1) := by decide +kernel
set_option maxHeartbeats 4000000 in
set_option maxRecDepth 100000 in
theorem c89_X7_liarsOf (l : Launch) (G : va_G) (cI cJ cB cZ : ClassId) (a0 a1 a2 a3 a4 a5 a6 a7 a8 a9 a10 a11 : Nat) : Con l G (TY cI cJ cB cZ) yX7_liarsOf cX7_liarsOf 5 (some .int) ({ frames := 0, cells := 0, slots := 0, locals := 0 } : Room) [.ref a0, .long 0] [(a0, .inr (7, [.int 100, .int 100, .int 0, .ref a1, .ref a2, .int 0, .ref a3, .ref a4, .ref a5, .ref a6, .ref a7, .ref a8, .ref a9, .ref a10, .ref a11]))] (QI G (TY cI cJ cB cZ) (fun (r : Int32) (u : Unit) => r = 0) (fun u : Unit => [(a0, .inr (7, [.int 100, .int 100, .int 0, .ref a1, .ref a2, .int 0, .ref a3, .ref a4, .ref a5, .ref a6, .ref a7, .ref a8, .ref a9, .ref a10, .ref a11]))])) := by
  refine k_met (by decide) (Nat.le_of_ble_eq_true rfl) ?_
  intro p e s m below meth c A ls hC hr hlk hnm hN hK hA hP hD hS hl
  have hl : lv_has ls 5 [(0, .ref a0), (1, .long 0)] := hl
  obtain ⟨hx, hb, hml, hown, hts⟩ := id hC
  refine lv_iconst (v := 0) hx hb dX7_liarsOf_0 (by decide) ?_
  refine lv_istore_n (lv' := [(3, .int 0), (0, .ref a0), (1, .long 0)]) hx hb dX7_liarsOf_1 rfl hl (by decide) rfl (fun ls hl => ?_)
  refine lv_iconst (v := 0) hx hb dX7_liarsOf_2 (by decide) ?_
  refine lv_istore (lv' := [(4, .int 0), (3, .int 0), (0, .ref a0), (1, .long 0)]) hx hb dX7_liarsOf_3 hl (by decide) rfl (fun ls hl => ?_)
  refine lv_iload hx hb dX7_liarsOf_5 (lv_at hl 0 rfl) ?_
  refine lv_aload_n hx hb dX7_liarsOf_7 rfl (lv_at hl 2 rfl) ?_
  refine k_get hC hK hP iX7 0 5 wf_X7_75 rfl (by decide) rfl rfl dX7_liarsOf_8 ?_
  refine lv_icmp_ge (tgt := 56) hx hb dX7_liarsOf_11 (by decide) (fun _ => ?_) (fun c_ => absurd (by decide +kernel) c_)
  refine lv_iload_n hx hb dX7_liarsOf_56 rfl (lv_at hl 1 rfl) ?_
  exact k_iret hC hr hlk hK hP hD hS () [0] rfl (by decide) rfl (Nat.le_of_ble_eq_true rfl) (Nat.le_of_ble_eq_true rfl) dX7_liarsOf_57
theorem dX0_liarSets_0 : decode cX0_liarSets 0 = .ok (.aload_n 0, 1) := by decide +kernel
theorem dX0_liarSets_1 : decode cX0_liarSets 1 = .ok (.getfield 30, 3) := by decide +kernel
theorem dX0_liarSets_4 : decode cX0_liarSets 4 = .ok (.ifCond .ne 50, 3) := by decide +kernel
theorem dX0_liarSets_7 : decode cX0_liarSets 7 = .ok (.aload_n 0, 1) := by decide +kernel
theorem dX0_liarSets_8 : decode cX0_liarSets 8 = .ok (.lconst 0, 1) := by decide +kernel
theorem dX0_liarSets_9 : decode cX0_liarSets 9 = .ok (.putfield 33, 3) := by decide +kernel
theorem dX0_liarSets_12 : decode cX0_liarSets 12 = .ok (.iconst 0, 1) := by decide +kernel
theorem dX0_liarSets_13 : decode cX0_liarSets 13 = .ok (.istore_n 2, 1) := by decide +kernel
theorem dX0_liarSets_14 : decode cX0_liarSets 14 = .ok (.iload_n 2, 1) := by decide +kernel
theorem dX0_liarSets_15 : decode cX0_liarSets 15 = .ok (.aload_n 0, 1) := by decide +kernel
theorem dX0_liarSets_16 : decode cX0_liarSets 16 = .ok (.getfield 15, 3) := by decide +kernel
theorem dX0_liarSets_19 : decode cX0_liarSets 19 = .ok (.if_icmp .ge 30, 3) := by decide +kernel
theorem dX0_liarSets_22 : decode cX0_liarSets 22 = .ok (.aload_n 0, 1) := by decide +kernel
theorem dX0_liarSets_23 : decode cX0_liarSets 23 = .ok (.dup, 1) := by decide +kernel
theorem dX0_liarSets_24 : decode cX0_liarSets 24 = .ok (.getfield 33, 3) := by decide +kernel
theorem dX0_liarSets_27 : decode cX0_liarSets 27 = .ok (.lconst 1, 1) := by decide +kernel
theorem dX0_liarSets_28 : decode cX0_liarSets 28 = .ok (.aload_n 1, 1) := by decide +kernel
theorem dX0_liarSets_29 : decode cX0_liarSets 29 = .ok (.aload_n 0, 1) := by decide +kernel
theorem dX0_liarSets_30 : decode cX0_liarSets 30 = .ok (.getfield 11, 3) := by decide +kernel
theorem dX0_liarSets_33 : decode cX0_liarSets 33 = .ok (.iload_n 2, 1) := by decide +kernel
theorem dX0_liarSets_34 : decode cX0_liarSets 34 = .ok (.laload, 1) := by decide +kernel
theorem dX0_liarSets_35 : decode cX0_liarSets 35 = .ok (.invokevirtual 49, 3) := by decide +kernel
set_option maxRecDepth 100000 in
theorem wm_X0_49 : Cond.methodLink RX0 49 yX7_liarsOf ∈ gw := gm (List.mem_of_getElem? (i := 998) (by decide +kernel)) rfl
set_option maxRecDepth 100000 in
theorem mi_X7_liarsOf : MI yX7_liarsOf cX7_liarsOf 5 (some .int) 1 := ⟨gm (List.mem_of_getElem? (i := 1001) rfl) rfl, gm (List.mem_of_getElem? (i := 113) (by decide +kernel)) rfl, by decide, by decide, by decide +kernel⟩
set_option maxRecDepth 100000 in
theorem in_X7_liarsOf : Cond.instanceMethod yX7_liarsOf ∈ gw := gm (List.mem_of_getElem? (i := 999) (by decide +kernel)) rfl
set_option maxRecDepth 100000 in
theorem se_X7_liarsOf : Cond.selects yX7_liarsOf.cls yX7_liarsOf yX7_liarsOf ∈ gw := gm (List.mem_of_getElem? (i := 1000) (by decide +kernel)) rfl
theorem dX0_liarSets_38 : decode cX0_liarSets 38 = .ok (.lshl, 1) := by decide +kernel
theorem dX0_liarSets_39 : decode cX0_liarSets 39 = .ok (.lor, 1) := by decide +kernel
theorem dX0_liarSets_40 : decode cX0_liarSets 40 = .ok (.putfield 33, 3) := by decide +kernel
theorem dX0_liarSets_43 : decode cX0_liarSets 43 = .ok (.iinc 2 1, 3) := by decide +kernel
theorem dX0_liarSets_46 : decode cX0_liarSets 46 = .ok (.goto (-32), 3) := by decide +kernel
theorem dX0_liarSets_49 : decode cX0_liarSets 49 = .ok (.aload_n 0, 1) := by decide +kernel
theorem dX0_liarSets_50 : decode cX0_liarSets 50 = .ok (.iconst 1, 1) := by decide +kernel
theorem dX0_liarSets_51 : decode cX0_liarSets 51 = .ok (.putfield 30, 3) := by decide +kernel
theorem dX0_liarSets_54 : decode cX0_liarSets 54 = .ok (.aload_n 0, 1) := by decide +kernel
theorem dX0_liarSets_55 : decode cX0_liarSets 55 = .ok (.getfield 33, 3) := by decide +kernel
theorem dX0_liarSets_58 : decode cX0_liarSets 58 = .ok (.lreturn, 1) := by decide +kernel
set_option maxHeartbeats 4000000 in
set_option maxRecDepth 100000 in
theorem c90_X0_liarSets (l : Launch) (G : va_G) (cI cJ cB cZ : ClassId) (a0 a1 a2 a3 a4 a5 a6 a7 a8 a9 a10 a11 a12 a13 : Nat) : Con l G (TY cI cJ cB cZ) yX0_liarSets cX0_liarSets 3 (some .long) ({ frames := 1, cells := 0, slots := 0, locals := 24 } : Room) [.ref a0, .ref a1] [(a0, .inr (0, [.ref a2, .int 1, .int 1, .long 0, .int 1, .int 0, .long 0])), (a2, .inl (cJ, 256, .inr (.inl (vp_updL (fun _ => 0) 0 0)))), (a1, .inr (7, [.int 100, .int 100, .int 0, .ref a3, .ref a4, .int 0, .ref a5, .ref a6, .ref a7, .ref a8, .ref a9, .ref a10, .ref a11, .ref a12, .ref a13]))] (QL G (TY cI cJ cB cZ) (fun (r : Int64) (u : Unit) => r = 1) (fun u : Unit => [(a0, .inr (0, [.ref a2, .int 1, .int 1, .long 0, .int 1, .int 1, .long 1])), (a2, .inl (cJ, 256, .inr (.inl (vp_updL (fun _ => 0) 0 0)))), (a1, .inr (7, [.int 100, .int 100, .int 0, .ref a3, .ref a4, .int 0, .ref a5, .ref a6, .ref a7, .ref a8, .ref a9, .ref a10, .ref a11, .ref a12, .ref a13]))])) := by
  refine k_met (by decide) (Nat.le_of_ble_eq_true rfl) ?_
  intro p e s m below meth c A ls hC hr hlk hnm hN hK hA hP hD hS hl
  have hl : lv_has ls 3 [(0, .ref a0), (1, .ref a1)] := hl
  obtain ⟨hx, hb, hml, hown, hts⟩ := id hC
  refine lv_aload_n hx hb dX0_liarSets_0 rfl (lv_at hl 0 rfl) ?_
  refine k_get hC hK hP iX0 0 5 wf_X0_30 rfl (by decide) rfl rfl dX0_liarSets_1 ?_
  refine lv_if_ne (tgt := 54) hx hb dX0_liarSets_4 (by decide) (fun c_ => absurd (by decide +kernel) c_) (fun _ => ?_)
  refine lv_aload_n hx hb dX0_liarSets_7 rfl (lv_at hl 0 rfl) ?_
  refine lv_lconst (v := 0) hx hb dX0_liarSets_8 (by decide) ?_
  refine k_put hC hK hP hD hS iX0 tyX0_ok nmX0 0 6 wf_X0_33 rfl (by decide) rfl rfl rfl rfl (Nat.le_of_ble_eq_true rfl) dX0_liarSets_9 (fun H locs hP hD hS => ?_)
  have hP : va_P G cl [(a0, .inr (0, [.ref a2, .int 1, .int 1, .long 0, .int 1, .int 0, .long 0])), (a2, .inl (cJ, 256, .inr (.inl (vp_updL (fun _ => 0) 0 0)))), (a1, .inr (7, [.int 100, .int 100, .int 0, .ref a3, .ref a4, .int 0, .ref a5, .ref a6, .ref a7, .ref a8, .ref a9, .ref a10, .ref a11, .ref a12, .ref a13]))] H := hP
  have hD : va_D A [(a0, .inr (0, [.ref a2, .int 1, .int 1, .long 0, .int 1, .int 0, .long 0])), (a2, .inl (cJ, 256, .inr (.inl (vp_updL (fun _ => 0) 0 0)))), (a1, .inr (7, [.int 100, .int 100, .int 0, .ref a3, .ref a4, .int 0, .ref a5, .ref a6, .ref a7, .ref a8, .ref a9, .ref a10, .ref a11, .ref a12, .ref a13]))] := hD
  refine lv_iconst (v := 0) hx hb dX0_liarSets_12 (by decide) ?_
  refine lv_istore_n (lv' := [(2, .int 0), (0, .ref a0), (1, .ref a1)]) hx hb dX0_liarSets_13 rfl hl (by decide) rfl (fun ls hl => ?_)
  refine lv_iload_n hx hb dX0_liarSets_14 rfl (lv_at hl 0 rfl) ?_
  refine lv_aload_n hx hb dX0_liarSets_15 rfl (lv_at hl 1 rfl) ?_
  refine k_get hC hK hP iX0 0 1 wf_X0_15 rfl (by decide) rfl rfl dX0_liarSets_16 ?_
  refine lv_icmp_ge (tgt := 49) hx hb dX0_liarSets_19 (by decide) (fun c_ => absurd c_ (by decide +kernel)) (fun _ => ?_)
  refine lv_aload_n hx hb dX0_liarSets_22 rfl (lv_at hl 1 rfl) ?_
  refine lv_dup hx hb dX0_liarSets_23 rfl ?_
  refine k_get hC hK hP iX0 0 6 wf_X0_33 rfl (by decide) rfl rfl dX0_liarSets_24 ?_
  refine lv_lconst (v := 1) hx hb dX0_liarSets_27 (by decide) ?_
  refine lv_aload_n hx hb dX0_liarSets_28 rfl (lv_at hl 2 rfl) ?_
  refine lv_aload_n hx hb dX0_liarSets_29 rfl (lv_at hl 1 rfl) ?_
  refine k_get hC hK hP iX0 0 0 wf_X0_11 rfl (by decide) rfl rfl dX0_liarSets_30 ?_
  refine lv_iload_n hx hb dX0_liarSets_33 rfl (lv_at hl 0 rfl) ?_
  refine k_lald (v := 0) hC hK hP 1 0 rfl (by decide +kernel) (by decide) (by decide +kernel) dX0_liarSets_34 ?_
  refine k_ci (wr := [(a0, .inr (0, [.ref a2, .int 1, .int 1, .long 0, .int 1, .int 0, .long 0])), (a2, .inl (cJ, 256, .inr (.inl (vp_updL (fun _ => 0) 0 0))))]) (k_rV hC hN hK hP hD (c89_X7_liarsOf l G cI cJ cB cZ a1 a3 a4 a5 a6 a7 a8 a9 a10 a11 a12 a13) [2] rfl (by decide) mi_X7_liarsOf in_X7_liarsOf se_X7_liarsOf wm_X0_49 7 2 rfl rfl rfl hl.1 rfl rfl (Nat.le_of_ble_eq_true rfl) ⟨(Nat.le_of_ble_eq_true rfl), (Nat.le_of_ble_eq_true rfl)⟩ dX0_liarSets_35 ⟨(Nat.le_of_ble_eq_true rfl), (Nat.le_of_ble_eq_true rfl)⟩) hP hD hS hA [2] [0, 1] rfl rfl (by decide) (by decide) (fun r1 u1 H locs hp hP hD hS => ?_)
  have hP : va_P G cl [(a0, .inr (0, [.ref a2, .int 1, .int 1, .long 0, .int 1, .int 0, .long 0])), (a2, .inl (cJ, 256, .inr (.inl (vp_updL (fun _ => 0) 0 0)))), (a1, .inr (7, [.int 100, .int 100, .int 0, .ref a3, .ref a4, .int 0, .ref a5, .ref a6, .ref a7, .ref a8, .ref a9, .ref a10, .ref a11, .ref a12, .ref a13]))] H := hP
  have hD : va_D A [(a0, .inr (0, [.ref a2, .int 1, .int 1, .long 0, .int 1, .int 0, .long 0])), (a2, .inl (cJ, 256, .inr (.inl (vp_updL (fun _ => 0) 0 0)))), (a1, .inr (7, [.int 100, .int 100, .int 0, .ref a3, .ref a4, .int 0, .ref a5, .ref a6, .ref a7, .ref a8, .ref a9, .ref a10, .ref a11, .ref a12, .ref a13]))] := hD
  subst hp
  refine lv_lshl (v := 1) hx hb dX0_liarSets_38 (by decide +kernel) ?_
  refine lv_lor hx hb dX0_liarSets_39 ?_
  refine k_l 1 (by decide +kernel) ?_
  refine k_put hC hK hP hD hS iX0 tyX0_ok nmX0 0 6 wf_X0_33 rfl (by decide) rfl rfl rfl rfl (Nat.le_of_ble_eq_true rfl) dX0_liarSets_40 (fun H locs hP hD hS => ?_)
  have hP : va_P G cl [(a0, .inr (0, [.ref a2, .int 1, .int 1, .long 0, .int 1, .int 0, .long 1])), (a2, .inl (cJ, 256, .inr (.inl (vp_updL (fun _ => 0) 0 0)))), (a1, .inr (7, [.int 100, .int 100, .int 0, .ref a3, .ref a4, .int 0, .ref a5, .ref a6, .ref a7, .ref a8, .ref a9, .ref a10, .ref a11, .ref a12, .ref a13]))] H := hP
  have hD : va_D A [(a0, .inr (0, [.ref a2, .int 1, .int 1, .long 0, .int 1, .int 0, .long 1])), (a2, .inl (cJ, 256, .inr (.inl (vp_updL (fun _ => 0) 0 0)))), (a1, .inr (7, [.int 100, .int 100, .int 0, .ref a3, .ref a4, .int 0, .ref a5, .ref a6, .ref a7, .ref a8, .ref a9, .ref a10, .ref a11, .ref a12, .ref a13]))] := hD
  refine lv_iinc (v := 1) (lv' := [(2, .int 1), (0, .ref a0), (1, .ref a1)]) hx hb dX0_liarSets_43 hl (k := 0) rfl (by decide +kernel) (by decide) rfl (fun ls hl => ?_)
  refine lv_goto (tgt := 14) hx hb dX0_liarSets_46 (by decide) ?_
  refine lv_iload_n hx hb dX0_liarSets_14 rfl (lv_at hl 0 rfl) ?_
  refine lv_aload_n hx hb dX0_liarSets_15 rfl (lv_at hl 1 rfl) ?_
  refine k_get hC hK hP iX0 0 1 wf_X0_15 rfl (by decide) rfl rfl dX0_liarSets_16 ?_
  refine lv_icmp_ge (tgt := 49) hx hb dX0_liarSets_19 (by decide) (fun _ => ?_) (fun c_ => absurd (by decide +kernel) c_)
  refine lv_aload_n hx hb dX0_liarSets_49 rfl (lv_at hl 1 rfl) ?_
  refine lv_iconst (v := 1) hx hb dX0_liarSets_50 (by decide) ?_
  refine k_put hC hK hP hD hS iX0 tyX0_ok nmX0 0 5 wf_X0_30 rfl (by decide) rfl rfl rfl rfl (Nat.le_of_ble_eq_true rfl) dX0_liarSets_51 (fun H locs hP hD hS => ?_)
  have hP : va_P G cl [(a0, .inr (0, [.ref a2, .int 1, .int 1, .long 0, .int 1, .int 1, .long 1])), (a2, .inl (cJ, 256, .inr (.inl (vp_updL (fun _ => 0) 0 0)))), (a1, .inr (7, [.int 100, .int 100, .int 0, .ref a3, .ref a4, .int 0, .ref a5, .ref a6, .ref a7, .ref a8, .ref a9, .ref a10, .ref a11, .ref a12, .ref a13]))] H := hP
  have hD : va_D A [(a0, .inr (0, [.ref a2, .int 1, .int 1, .long 0, .int 1, .int 1, .long 1])), (a2, .inl (cJ, 256, .inr (.inl (vp_updL (fun _ => 0) 0 0)))), (a1, .inr (7, [.int 100, .int 100, .int 0, .ref a3, .ref a4, .int 0, .ref a5, .ref a6, .ref a7, .ref a8, .ref a9, .ref a10, .ref a11, .ref a12, .ref a13]))] := hD
  refine lv_aload_n hx hb dX0_liarSets_54 rfl (lv_at hl 1 rfl) ?_
  refine k_get hC hK hP iX0 0 6 wf_X0_33 rfl (by decide) rfl rfl dX0_liarSets_55 ?_
  exact k_lret hC hr hlk hK hP hD hS () [0, 1, 2] rfl (by decide) rfl (Nat.le_of_ble_eq_true rfl) (Nat.le_of_ble_eq_true rfl) dX0_liarSets_58
theorem dJ6_bitCount_0f7a4_0 : decode cJ6_bitCount_0f7a4 0 = .ok (.iload_n 0, 1) := by decide +kernel
theorem dJ6_bitCount_0f7a4_1 : decode cJ6_bitCount_0f7a4 1 = .ok (.iload_n 0, 1) := by decide +kernel
theorem dJ6_bitCount_0f7a4_2 : decode cJ6_bitCount_0f7a4 2 = .ok (.iconst 1, 1) := by decide +kernel
theorem dJ6_bitCount_0f7a4_3 : decode cJ6_bitCount_0f7a4 3 = .ok (.iushr, 1) := by decide +kernel
theorem dJ6_bitCount_0f7a4_4 : decode cJ6_bitCount_0f7a4 4 = .ok (.ldc_w 265, 3) := by decide +kernel
set_option maxRecDepth 100000 in
theorem kc_J6_265 : Cond.constant RJ6 265 1431655765 ∈ gw := gm (List.mem_of_getElem? (i := 858) (by decide +kernel)) rfl
theorem dJ6_bitCount_0f7a4_7 : decode cJ6_bitCount_0f7a4 7 = .ok (.iand, 1) := by decide +kernel
theorem dJ6_bitCount_0f7a4_8 : decode cJ6_bitCount_0f7a4 8 = .ok (.isub, 1) := by decide +kernel
theorem dJ6_bitCount_0f7a4_9 : decode cJ6_bitCount_0f7a4 9 = .ok (.istore_n 0, 1) := by decide +kernel
theorem dJ6_bitCount_0f7a4_10 : decode cJ6_bitCount_0f7a4 10 = .ok (.iload_n 0, 1) := by decide +kernel
theorem dJ6_bitCount_0f7a4_11 : decode cJ6_bitCount_0f7a4 11 = .ok (.ldc_w 266, 3) := by decide +kernel
set_option maxRecDepth 100000 in
theorem kc_J6_266 : Cond.constant RJ6 266 858993459 ∈ gw := gm (List.mem_of_getElem? (i := 859) (by decide +kernel)) rfl
theorem dJ6_bitCount_0f7a4_14 : decode cJ6_bitCount_0f7a4 14 = .ok (.iand, 1) := by decide +kernel
theorem dJ6_bitCount_0f7a4_15 : decode cJ6_bitCount_0f7a4 15 = .ok (.iload_n 0, 1) := by decide +kernel
theorem dJ6_bitCount_0f7a4_16 : decode cJ6_bitCount_0f7a4 16 = .ok (.iconst 2, 1) := by decide +kernel
theorem dJ6_bitCount_0f7a4_17 : decode cJ6_bitCount_0f7a4 17 = .ok (.iushr, 1) := by decide +kernel
theorem dJ6_bitCount_0f7a4_18 : decode cJ6_bitCount_0f7a4 18 = .ok (.ldc_w 266, 3) := by decide +kernel
theorem dJ6_bitCount_0f7a4_21 : decode cJ6_bitCount_0f7a4 21 = .ok (.iand, 1) := by decide +kernel
theorem dJ6_bitCount_0f7a4_22 : decode cJ6_bitCount_0f7a4 22 = .ok (.iadd, 1) := by decide +kernel
theorem dJ6_bitCount_0f7a4_23 : decode cJ6_bitCount_0f7a4 23 = .ok (.istore_n 0, 1) := by decide +kernel
theorem dJ6_bitCount_0f7a4_24 : decode cJ6_bitCount_0f7a4 24 = .ok (.iload_n 0, 1) := by decide +kernel
theorem dJ6_bitCount_0f7a4_25 : decode cJ6_bitCount_0f7a4 25 = .ok (.iload_n 0, 1) := by decide +kernel
theorem dJ6_bitCount_0f7a4_26 : decode cJ6_bitCount_0f7a4 26 = .ok (.iconst 4, 1) := by decide +kernel
theorem dJ6_bitCount_0f7a4_27 : decode cJ6_bitCount_0f7a4 27 = .ok (.iushr, 1) := by decide +kernel
theorem dJ6_bitCount_0f7a4_28 : decode cJ6_bitCount_0f7a4 28 = .ok (.iadd, 1) := by decide +kernel
theorem dJ6_bitCount_0f7a4_29 : decode cJ6_bitCount_0f7a4 29 = .ok (.ldc_w 267, 3) := by decide +kernel
set_option maxRecDepth 100000 in
theorem kc_J6_267 : Cond.constant RJ6 267 252645135 ∈ gw := gm (List.mem_of_getElem? (i := 860) (by decide +kernel)) rfl
theorem dJ6_bitCount_0f7a4_32 : decode cJ6_bitCount_0f7a4 32 = .ok (.iand, 1) := by decide +kernel
theorem dJ6_bitCount_0f7a4_33 : decode cJ6_bitCount_0f7a4 33 = .ok (.istore_n 0, 1) := by decide +kernel
theorem dJ6_bitCount_0f7a4_34 : decode cJ6_bitCount_0f7a4 34 = .ok (.iload_n 0, 1) := by decide +kernel
theorem dJ6_bitCount_0f7a4_35 : decode cJ6_bitCount_0f7a4 35 = .ok (.iload_n 0, 1) := by decide +kernel
theorem dJ6_bitCount_0f7a4_36 : decode cJ6_bitCount_0f7a4 36 = .ok (.bipush 8, 2) := by decide +kernel
theorem dJ6_bitCount_0f7a4_38 : decode cJ6_bitCount_0f7a4 38 = .ok (.iushr, 1) := by decide +kernel
theorem dJ6_bitCount_0f7a4_39 : decode cJ6_bitCount_0f7a4 39 = .ok (.iadd, 1) := by decide +kernel
theorem dJ6_bitCount_0f7a4_40 : decode cJ6_bitCount_0f7a4 40 = .ok (.istore_n 0, 1) := by decide +kernel
theorem dJ6_bitCount_0f7a4_41 : decode cJ6_bitCount_0f7a4 41 = .ok (.iload_n 0, 1) := by decide +kernel
theorem dJ6_bitCount_0f7a4_42 : decode cJ6_bitCount_0f7a4 42 = .ok (.iload_n 0, 1) := by decide +kernel
theorem dJ6_bitCount_0f7a4_43 : decode cJ6_bitCount_0f7a4 43 = .ok (.bipush 16, 2) := by decide +kernel
theorem dJ6_bitCount_0f7a4_45 : decode cJ6_bitCount_0f7a4 45 = .ok (.iushr, 1) := by decide +kernel
theorem dJ6_bitCount_0f7a4_46 : decode cJ6_bitCount_0f7a4 46 = .ok (.iadd, 1) := by decide +kernel
theorem dJ6_bitCount_0f7a4_47 : decode cJ6_bitCount_0f7a4 47 = .ok (.istore_n 0, 1) := by decide +kernel
theorem dJ6_bitCount_0f7a4_48 : decode cJ6_bitCount_0f7a4 48 = .ok (.iload_n 0, 1) := by decide +kernel
theorem dJ6_bitCount_0f7a4_49 : decode cJ6_bitCount_0f7a4 49 = .ok (.bipush 63, 2) := by decide +kernel
theorem dJ6_bitCount_0f7a4_51 : decode cJ6_bitCount_0f7a4 51 = .ok (.iand, 1) := by decide +kernel
theorem dJ6_bitCount_0f7a4_52 : decode cJ6_bitCount_0f7a4 52 = .ok (.ireturn, 1) := by decide +kernel
set_option maxHeartbeats 4000000 in
set_option maxRecDepth 100000 in
theorem c91_J6_bitCount_0f7a4 (l : Launch) (G : va_G) (cI cJ cB cZ : ClassId) : Con l G (TY cI cJ cB cZ) yJ6_bitCount_0f7a4 cJ6_bitCount_0f7a4 1 (some .int) ({ frames := 0, cells := 0, slots := 0, locals := 0 } : Room) [.int 0] [] (QI G (TY cI cJ cB cZ) (fun (r : Int32) (u : Unit) => r = 0) (fun u : Unit => [])) := by
  refine k_met (by decide) (Nat.le_of_ble_eq_true rfl) ?_
  intro p e s m below meth c A ls hC hr hlk hnm hN hK hA hP hD hS hl
  have hl : lv_has ls 1 [(0, .int 0)] := hl
  obtain ⟨hx, hb, hml, hown, hts⟩ := id hC
  refine lv_iload_n hx hb dJ6_bitCount_0f7a4_0 rfl (lv_at hl 0 rfl) ?_
  refine lv_iload_n hx hb dJ6_bitCount_0f7a4_1 rfl (lv_at hl 0 rfl) ?_
  refine lv_iconst (v := 1) hx hb dJ6_bitCount_0f7a4_2 (by decide) ?_
  refine lv_iushr (v := 0) hx hb dJ6_bitCount_0f7a4_3 (by decide +kernel) ?_
  refine lv_ldcw (v := 1431655765) hx hb hown (hts _ kc_J6_265) dJ6_bitCount_0f7a4_4 ?_
  refine lv_iand hx hb dJ6_bitCount_0f7a4_7 ?_
  refine k_i 0 (by decide +kernel) ?_
  refine lv_isub hx hb dJ6_bitCount_0f7a4_8 ?_
  refine k_i 0 (by decide +kernel) ?_
  refine lv_istore_n (lv' := [(0, .int 0)]) hx hb dJ6_bitCount_0f7a4_9 rfl hl (by decide) rfl (fun ls hl => ?_)
  refine lv_iload_n hx hb dJ6_bitCount_0f7a4_10 rfl (lv_at hl 0 rfl) ?_
  refine lv_ldcw (v := 858993459) hx hb hown (hts _ kc_J6_266) dJ6_bitCount_0f7a4_11 ?_
  refine lv_iand hx hb dJ6_bitCount_0f7a4_14 ?_
  refine k_i 0 (by decide +kernel) ?_
  refine lv_iload_n hx hb dJ6_bitCount_0f7a4_15 rfl (lv_at hl 0 rfl) ?_
  refine lv_iconst (v := 2) hx hb dJ6_bitCount_0f7a4_16 (by decide) ?_
  refine lv_iushr (v := 0) hx hb dJ6_bitCount_0f7a4_17 (by decide +kernel) ?_
  refine lv_ldcw (v := 858993459) hx hb hown (hts _ kc_J6_266) dJ6_bitCount_0f7a4_18 ?_
  refine lv_iand hx hb dJ6_bitCount_0f7a4_21 ?_
  refine k_i 0 (by decide +kernel) ?_
  refine lv_iadd hx hb dJ6_bitCount_0f7a4_22 ?_
  refine k_i 0 (by decide +kernel) ?_
  refine lv_istore_n (lv' := [(0, .int 0)]) hx hb dJ6_bitCount_0f7a4_23 rfl hl (by decide) rfl (fun ls hl => ?_)
  refine lv_iload_n hx hb dJ6_bitCount_0f7a4_24 rfl (lv_at hl 0 rfl) ?_
  refine lv_iload_n hx hb dJ6_bitCount_0f7a4_25 rfl (lv_at hl 0 rfl) ?_
  refine lv_iconst (v := 4) hx hb dJ6_bitCount_0f7a4_26 (by decide) ?_
  refine lv_iushr (v := 0) hx hb dJ6_bitCount_0f7a4_27 (by decide +kernel) ?_
  refine lv_iadd hx hb dJ6_bitCount_0f7a4_28 ?_
  refine k_i 0 (by decide +kernel) ?_
  refine lv_ldcw (v := 252645135) hx hb hown (hts _ kc_J6_267) dJ6_bitCount_0f7a4_29 ?_
  refine lv_iand hx hb dJ6_bitCount_0f7a4_32 ?_
  refine k_i 0 (by decide +kernel) ?_
  refine lv_istore_n (lv' := [(0, .int 0)]) hx hb dJ6_bitCount_0f7a4_33 rfl hl (by decide) rfl (fun ls hl => ?_)
  refine lv_iload_n hx hb dJ6_bitCount_0f7a4_34 rfl (lv_at hl 0 rfl) ?_
  refine lv_iload_n hx hb dJ6_bitCount_0f7a4_35 rfl (lv_at hl 0 rfl) ?_
  refine lv_bipush (v := 8) hx hb dJ6_bitCount_0f7a4_36 (by decide) ?_
  refine lv_iushr (v := 0) hx hb dJ6_bitCount_0f7a4_38 (by decide +kernel) ?_
  refine lv_iadd hx hb dJ6_bitCount_0f7a4_39 ?_
  refine k_i 0 (by decide +kernel) ?_
  refine lv_istore_n (lv' := [(0, .int 0)]) hx hb dJ6_bitCount_0f7a4_40 rfl hl (by decide) rfl (fun ls hl => ?_)
  refine lv_iload_n hx hb dJ6_bitCount_0f7a4_41 rfl (lv_at hl 0 rfl) ?_
  refine lv_iload_n hx hb dJ6_bitCount_0f7a4_42 rfl (lv_at hl 0 rfl) ?_
  refine lv_bipush (v := 16) hx hb dJ6_bitCount_0f7a4_43 (by decide) ?_
  refine lv_iushr (v := 0) hx hb dJ6_bitCount_0f7a4_45 (by decide +kernel) ?_
  refine lv_iadd hx hb dJ6_bitCount_0f7a4_46 ?_
  refine k_i 0 (by decide +kernel) ?_
  refine lv_istore_n (lv' := [(0, .int 0)]) hx hb dJ6_bitCount_0f7a4_47 rfl hl (by decide) rfl (fun ls hl => ?_)
  refine lv_iload_n hx hb dJ6_bitCount_0f7a4_48 rfl (lv_at hl 0 rfl) ?_
  refine lv_bipush (v := 63) hx hb dJ6_bitCount_0f7a4_49 (by decide) ?_
  refine lv_iand hx hb dJ6_bitCount_0f7a4_51 ?_
  refine k_i 0 (by decide +kernel) ?_
  exact k_iret hC hr hlk hK hP hD hS () [] rfl (by decide) rfl (Nat.le_of_ble_eq_true rfl) (Nat.le_of_ble_eq_true rfl) dJ6_bitCount_0f7a4_52
theorem dX0_fewestLiars_0 : decode cX0_fewestLiars 0 = .ok (.aload_n 0, 1) := by decide +kernel
theorem dX0_fewestLiars_1 : decode cX0_fewestLiars 1 = .ok (.aload_n 1, 1) := by decide +kernel
theorem dX0_fewestLiars_2 : decode cX0_fewestLiars 2 = .ok (.invokevirtual 55, 3) := by decide +kernel
set_option maxRecDepth 100000 in
theorem wm_X0_55 : Cond.methodLink RX0 55 yX0_liarSets ∈ gw := gm (List.mem_of_getElem? (i := 994) (by decide +kernel)) rfl
set_option maxRecDepth 100000 in
theorem mi_X0_liarSets : MI yX0_liarSets cX0_liarSets 3 (some .long) 1 := ⟨gm (List.mem_of_getElem? (i := 997) rfl) rfl, gm (List.mem_of_getElem? (i := 121) (by decide +kernel)) rfl, by decide, by decide, by decide +kernel⟩
set_option maxRecDepth 100000 in
theorem in_X0_liarSets : Cond.instanceMethod yX0_liarSets ∈ gw := gm (List.mem_of_getElem? (i := 996) (by decide +kernel)) rfl
set_option maxRecDepth 100000 in
theorem se_X0_liarSets : Cond.selects yX0_liarSets.cls yX0_liarSets yX0_liarSets ∈ gw := gm (List.mem_of_getElem? (i := 38) (by decide +kernel)) rfl
theorem dX0_fewestLiars_5 : decode cX0_fewestLiars 5 = .ok (.lstore_n 2, 1) := by decide +kernel
theorem dX0_fewestLiars_6 : decode cX0_fewestLiars 6 = .ok (.bipush 6, 2) := by decide +kernel
theorem dX0_fewestLiars_8 : decode cX0_fewestLiars 8 = .ok (.istore 4, 2) := by decide +kernel
theorem dX0_fewestLiars_10 : decode cX0_fewestLiars 10 = .ok (.iconst 0, 1) := by decide +kernel
theorem dX0_fewestLiars_11 : decode cX0_fewestLiars 11 = .ok (.istore 5, 2) := by decide +kernel
theorem dX0_fewestLiars_13 : decode cX0_fewestLiars 13 = .ok (.iload 5, 2) := by decide +kernel
theorem dX0_fewestLiars_15 : decode cX0_fewestLiars 15 = .ok (.bipush 64, 2) := by decide +kernel
theorem dX0_fewestLiars_17 : decode cX0_fewestLiars 17 = .ok (.if_icmp .ge 32, 3) := by decide +kernel
theorem dX0_fewestLiars_20 : decode cX0_fewestLiars 20 = .ok (.lload_n 2, 1) := by decide +kernel
theorem dX0_fewestLiars_21 : decode cX0_fewestLiars 21 = .ok (.iload 5, 2) := by decide +kernel
theorem dX0_fewestLiars_23 : decode cX0_fewestLiars 23 = .ok (.lshr, 1) := by decide +kernel
theorem dX0_fewestLiars_24 : decode cX0_fewestLiars 24 = .ok (.lconst 1, 1) := by decide +kernel
theorem dX0_fewestLiars_25 : decode cX0_fewestLiars 25 = .ok (.land, 1) := by decide +kernel
theorem dX0_fewestLiars_26 : decode cX0_fewestLiars 26 = .ok (.lconst 0, 1) := by decide +kernel
theorem dX0_fewestLiars_27 : decode cX0_fewestLiars 27 = .ok (.lcmp, 1) := by decide +kernel
theorem dX0_fewestLiars_28 : decode cX0_fewestLiars 28 = .ok (.ifCond .eq 15, 3) := by decide +kernel
theorem dX0_fewestLiars_31 : decode cX0_fewestLiars 31 = .ok (.iload 4, 2) := by decide +kernel
theorem dX0_fewestLiars_33 : decode cX0_fewestLiars 33 = .ok (.iload 5, 2) := by decide +kernel
theorem dX0_fewestLiars_35 : decode cX0_fewestLiars 35 = .ok (.invokestatic 58, 3) := by decide +kernel
set_option maxRecDepth 100000 in
theorem wm_X0_58 : Cond.methodLink RX0 58 yJ6_bitCount_0f7a4 ∈ gw := gm (List.mem_of_getElem? (i := 1010) (by decide +kernel)) rfl
set_option maxRecDepth 100000 in
theorem mi_J6_bitCount_0f7a4 : MI yJ6_bitCount_0f7a4 cJ6_bitCount_0f7a4 1 (some .int) 1 := ⟨gm (List.mem_of_getElem? (i := 857) rfl) rfl, gm (List.mem_of_getElem? (i := 125) (by decide +kernel)) rfl, by decide, by decide, by decide +kernel⟩
set_option maxRecDepth 100000 in
theorem st_J6_bitCount_0f7a4 : Cond.static yJ6_bitCount_0f7a4 ∈ gw := gm (List.mem_of_getElem? (i := 856) (by decide +kernel)) rfl
theorem dX0_fewestLiars_38 : decode cX0_fewestLiars 38 = .ok (.invokestatic 37, 3) := by decide +kernel
set_option maxRecDepth 100000 in
theorem wm_X0_37 : Cond.methodLink RX0 37 Lib.Math.min.name ∈ gw := gm (List.mem_of_getElem? (i := 890) (by decide +kernel)) rfl
set_option maxRecDepth 100000 in
theorem st_Mmin : Cond.static Lib.Math.min.name ∈ gw := gm (List.mem_of_getElem? (i := 641) (by decide +kernel)) rfl
set_option maxRecDepth 100000 in
theorem co_Mmin : Cond.code Lib.Math.min.name Lib.Math.min.code 2 (some .int) ∈ gw := gm (List.mem_of_getElem? (i := 642) rfl) rfl
theorem dX0_fewestLiars_41 : decode cX0_fewestLiars 41 = .ok (.istore 4, 2) := by decide +kernel
theorem dX0_fewestLiars_43 : decode cX0_fewestLiars 43 = .ok (.iinc 5 1, 3) := by decide +kernel
theorem dX0_fewestLiars_46 : decode cX0_fewestLiars 46 = .ok (.goto (-33), 3) := by decide +kernel
theorem dX0_fewestLiars_49 : decode cX0_fewestLiars 49 = .ok (.iload 4, 2) := by decide +kernel
theorem dX0_fewestLiars_51 : decode cX0_fewestLiars 51 = .ok (.ireturn, 1) := by decide +kernel
set_option maxHeartbeats 4000000 in
set_option maxRecDepth 100000 in
theorem c92_X0_fewestLiars (l : Launch) (G : va_G) (cI cJ cB cZ : ClassId) (a0 a1 a2 a3 a4 a5 a6 a7 a8 a9 a10 a11 a12 a13 : Nat) : Con l G (TY cI cJ cB cZ) yX0_fewestLiars cX0_fewestLiars 6 (some .int) ({ frames := 2, cells := 0, slots := 0, locals := 46 } : Room) [.ref a0, .ref a1] [(a0, .inr (0, [.ref a2, .int 1, .int 1, .long 0, .int 1, .int 0, .long 0])), (a2, .inl (cJ, 256, .inr (.inl (vp_updL (fun _ => 0) 0 0)))), (a1, .inr (7, [.int 100, .int 100, .int 0, .ref a3, .ref a4, .int 0, .ref a5, .ref a6, .ref a7, .ref a8, .ref a9, .ref a10, .ref a11, .ref a12, .ref a13]))] (QI G (TY cI cJ cB cZ) (fun (r : Int32) (u : Unit) => r = 0) (fun u : Unit => [(a0, .inr (0, [.ref a2, .int 1, .int 1, .long 0, .int 1, .int 1, .long 1])), (a2, .inl (cJ, 256, .inr (.inl (vp_updL (fun _ => 0) 0 0)))), (a1, .inr (7, [.int 100, .int 100, .int 0, .ref a3, .ref a4, .int 0, .ref a5, .ref a6, .ref a7, .ref a8, .ref a9, .ref a10, .ref a11, .ref a12, .ref a13]))])) := by
  refine k_met (by decide) (Nat.le_of_ble_eq_true rfl) ?_
  intro p e s m below meth c A ls hC hr hlk hnm hN hK hA hP hD hS hl
  have hl : lv_has ls 6 [(0, .ref a0), (1, .ref a1)] := hl
  obtain ⟨hx, hb, hml, hown, hts⟩ := id hC
  refine lv_aload_n hx hb dX0_fewestLiars_0 rfl (lv_at hl 0 rfl) ?_
  refine lv_aload_n hx hb dX0_fewestLiars_1 rfl (lv_at hl 1 rfl) ?_
  refine k_cl (wr := []) (k_rV hC hN hK hP hD (c90_X0_liarSets l G cI cJ cB cZ a0 a1 a2 a3 a4 a5 a6 a7 a8 a9 a10 a11 a12 a13) [0, 1, 2] rfl (by decide) mi_X0_liarSets in_X0_liarSets se_X0_liarSets wm_X0_55 0 0 rfl rfl rfl hl.1 rfl rfl (Nat.le_of_ble_eq_true rfl) ⟨(Nat.le_of_ble_eq_true rfl), (Nat.le_of_ble_eq_true rfl)⟩ dX0_fewestLiars_2 ⟨(Nat.le_of_ble_eq_true rfl), (Nat.le_of_ble_eq_true rfl)⟩) hP hD hS hA [0, 1, 2] [] rfl rfl (by decide) (by decide) (fun r1 u1 H locs hp hP hD hS => ?_)
  have hP : va_P G cl [(a0, .inr (0, [.ref a2, .int 1, .int 1, .long 0, .int 1, .int 1, .long 1])), (a2, .inl (cJ, 256, .inr (.inl (vp_updL (fun _ => 0) 0 0)))), (a1, .inr (7, [.int 100, .int 100, .int 0, .ref a3, .ref a4, .int 0, .ref a5, .ref a6, .ref a7, .ref a8, .ref a9, .ref a10, .ref a11, .ref a12, .ref a13]))] H := hP
  have hD : va_D A [(a0, .inr (0, [.ref a2, .int 1, .int 1, .long 0, .int 1, .int 1, .long 1])), (a2, .inl (cJ, 256, .inr (.inl (vp_updL (fun _ => 0) 0 0)))), (a1, .inr (7, [.int 100, .int 100, .int 0, .ref a3, .ref a4, .int 0, .ref a5, .ref a6, .ref a7, .ref a8, .ref a9, .ref a10, .ref a11, .ref a12, .ref a13]))] := hD
  subst hp
  refine lv_lstore_n (lv' := [(2, .long 1), (0, .ref a0), (1, .ref a1)]) hx hb dX0_fewestLiars_5 rfl hl (by decide) rfl (fun ls hl => ?_)
  refine lv_bipush (v := 6) hx hb dX0_fewestLiars_6 (by decide) ?_
  refine lv_istore (lv' := [(4, .int 6), (2, .long 1), (0, .ref a0), (1, .ref a1)]) hx hb dX0_fewestLiars_8 hl (by decide) rfl (fun ls hl => ?_)
  refine lv_iconst (v := 0) hx hb dX0_fewestLiars_10 (by decide) ?_
  refine lv_istore (lv' := [(5, .int 0), (4, .int 6), (2, .long 1), (0, .ref a0), (1, .ref a1)]) hx hb dX0_fewestLiars_11 hl (by decide) rfl (fun ls hl => ?_)
  refine lv_iload hx hb dX0_fewestLiars_13 (lv_at hl 0 rfl) ?_
  refine lv_bipush (v := 64) hx hb dX0_fewestLiars_15 (by decide) ?_
  refine lv_icmp_ge (tgt := 49) hx hb dX0_fewestLiars_17 (by decide) (fun c_ => absurd c_ (by decide +kernel)) (fun _ => ?_)
  refine lv_lload_n hx hb dX0_fewestLiars_20 rfl (lv_at hl 2 rfl) ?_
  refine lv_iload hx hb dX0_fewestLiars_21 (lv_at hl 0 rfl) ?_
  refine lv_lshr (v := 1) hx hb dX0_fewestLiars_23 (by decide +kernel) ?_
  refine lv_lconst (v := 1) hx hb dX0_fewestLiars_24 (by decide) ?_
  refine lv_land hx hb dX0_fewestLiars_25 ?_
  refine k_l 1 (by decide +kernel) ?_
  refine lv_lconst (v := 0) hx hb dX0_fewestLiars_26 (by decide) ?_
  refine W.lcmp hx hb dX0_fewestLiars_27 ?_
  refine k_i 1 (by decide +kernel) ?_
  refine lv_if_eq (tgt := 43) hx hb dX0_fewestLiars_28 (by decide) (fun c_ => absurd c_ (by decide +kernel)) (fun _ => ?_)
  refine lv_iload hx hb dX0_fewestLiars_31 (lv_at hl 1 rfl) ?_
  refine lv_iload hx hb dX0_fewestLiars_33 (lv_at hl 0 rfl) ?_
  refine k_ci (wr := [(a0, .inr (0, [.ref a2, .int 1, .int 1, .long 0, .int 1, .int 1, .long 1])), (a2, .inl (cJ, 256, .inr (.inl (vp_updL (fun _ => 0) 0 0)))), (a1, .inr (7, [.int 100, .int 100, .int 0, .ref a3, .ref a4, .int 0, .ref a5, .ref a6, .ref a7, .ref a8, .ref a9, .ref a10, .ref a11, .ref a12, .ref a13]))]) (k_rS hC hN hK hP hD (c91_J6_bitCount_0f7a4 l G cI cJ cB cZ) [] rfl (by decide) mi_J6_bitCount_0f7a4 st_J6_bitCount_0f7a4 wm_X0_58 hl.1 rfl rfl (Nat.le_of_ble_eq_true rfl) ⟨(Nat.le_of_ble_eq_true rfl), (Nat.le_of_ble_eq_true rfl)⟩ dX0_fewestLiars_35 ⟨(Nat.le_of_ble_eq_true rfl), (Nat.le_of_ble_eq_true rfl)⟩) hP hD hS hA [] [0, 1, 2] rfl rfl (by decide) (by decide) (fun r2 u2 H locs hp hP hD hS => ?_)
  have hP : va_P G cl [(a0, .inr (0, [.ref a2, .int 1, .int 1, .long 0, .int 1, .int 1, .long 1])), (a2, .inl (cJ, 256, .inr (.inl (vp_updL (fun _ => 0) 0 0)))), (a1, .inr (7, [.int 100, .int 100, .int 0, .ref a3, .ref a4, .int 0, .ref a5, .ref a6, .ref a7, .ref a8, .ref a9, .ref a10, .ref a11, .ref a12, .ref a13]))] H := hP
  have hD : va_D A [(a0, .inr (0, [.ref a2, .int 1, .int 1, .long 0, .int 1, .int 1, .long 1])), (a2, .inl (cJ, 256, .inr (.inl (vp_updL (fun _ => 0) 0 0)))), (a1, .inr (7, [.int 100, .int 100, .int 0, .ref a3, .ref a4, .int 0, .ref a5, .ref a6, .ref a7, .ref a8, .ref a9, .ref a10, .ref a11, .ref a12, .ref a13]))] := hD
  subst hp
  refine va_mmin hx hb (hml.trans hl.1.symm) hown (hts _ wm_X0_37) (hts _ st_Mmin) (hts _ ini_Math) (hts _ co_Mmin) (Nat.le_of_ble_eq_true rfl) (Nat.le_of_ble_eq_true rfl) (Nat.le_of_ble_eq_true rfl) (Nat.le_of_ble_eq_true rfl) dX0_fewestLiars_38 ?_
  refine k_i 0 (by decide +kernel) ?_
  refine lv_istore (lv' := [(4, .int 0), (5, .int 0), (2, .long 1), (0, .ref a0), (1, .ref a1)]) hx hb dX0_fewestLiars_41 hl (by decide) rfl (fun ls hl => ?_)
  refine lv_iinc (v := 1) (lv' := [(5, .int 1), (4, .int 0), (2, .long 1), (0, .ref a0), (1, .ref a1)]) hx hb dX0_fewestLiars_43 hl (k := 1) rfl (by decide +kernel) (by decide) rfl (fun ls hl => ?_)
  refine lv_goto (tgt := 13) hx hb dX0_fewestLiars_46 (by decide) ?_
  refine lv_iload hx hb dX0_fewestLiars_13 (lv_at hl 0 rfl) ?_
  refine lv_bipush (v := 64) hx hb dX0_fewestLiars_15 (by decide) ?_
  refine lv_icmp_ge (tgt := 49) hx hb dX0_fewestLiars_17 (by decide) (fun c_ => absurd c_ (by decide +kernel)) (fun _ => ?_)
  refine lv_lload_n hx hb dX0_fewestLiars_20 rfl (lv_at hl 2 rfl) ?_
  refine lv_iload hx hb dX0_fewestLiars_21 (lv_at hl 0 rfl) ?_
  refine lv_lshr (v := 0) hx hb dX0_fewestLiars_23 (by decide +kernel) ?_
  refine lv_lconst (v := 1) hx hb dX0_fewestLiars_24 (by decide) ?_
  refine lv_land hx hb dX0_fewestLiars_25 ?_
  refine k_l 0 (by decide +kernel) ?_
  refine lv_lconst (v := 0) hx hb dX0_fewestLiars_26 (by decide) ?_
  refine W.lcmp hx hb dX0_fewestLiars_27 ?_
  refine k_i 0 (by decide +kernel) ?_
  refine lv_if_eq (tgt := 43) hx hb dX0_fewestLiars_28 (by decide) (fun _ => ?_) (fun c_ => absurd (by decide +kernel) c_)
  refine lv_iinc (v := 2) (lv' := [(5, .int 2), (4, .int 0), (2, .long 1), (0, .ref a0), (1, .ref a1)]) hx hb dX0_fewestLiars_43 hl (k := 0) rfl (by decide +kernel) (by decide) rfl (fun ls hl => ?_)
  refine lv_goto (tgt := 13) hx hb dX0_fewestLiars_46 (by decide) ?_
  refine lv_iload hx hb dX0_fewestLiars_13 (lv_at hl 0 rfl) ?_
  refine lv_bipush (v := 64) hx hb dX0_fewestLiars_15 (by decide) ?_
  refine lv_icmp_ge (tgt := 49) hx hb dX0_fewestLiars_17 (by decide) (fun c_ => absurd c_ (by decide +kernel)) (fun _ => ?_)
  refine lv_lload_n hx hb dX0_fewestLiars_20 rfl (lv_at hl 2 rfl) ?_
  refine lv_iload hx hb dX0_fewestLiars_21 (lv_at hl 0 rfl) ?_
  refine lv_lshr (v := 0) hx hb dX0_fewestLiars_23 (by decide +kernel) ?_
  refine lv_lconst (v := 1) hx hb dX0_fewestLiars_24 (by decide) ?_
  refine lv_land hx hb dX0_fewestLiars_25 ?_
  refine k_l 0 (by decide +kernel) ?_
  refine lv_lconst (v := 0) hx hb dX0_fewestLiars_26 (by decide) ?_
  refine W.lcmp hx hb dX0_fewestLiars_27 ?_
  refine k_i 0 (by decide +kernel) ?_
  refine lv_if_eq (tgt := 43) hx hb dX0_fewestLiars_28 (by decide) (fun _ => ?_) (fun c_ => absurd (by decide +kernel) c_)
  refine lv_iinc (v := 3) (lv' := [(5, .int 3), (4, .int 0), (2, .long 1), (0, .ref a0), (1, .ref a1)]) hx hb dX0_fewestLiars_43 hl (k := 0) rfl (by decide +kernel) (by decide) rfl (fun ls hl => ?_)
  refine lv_goto (tgt := 13) hx hb dX0_fewestLiars_46 (by decide) ?_
  refine lv_iload hx hb dX0_fewestLiars_13 (lv_at hl 0 rfl) ?_
  refine lv_bipush (v := 64) hx hb dX0_fewestLiars_15 (by decide) ?_
  refine lv_icmp_ge (tgt := 49) hx hb dX0_fewestLiars_17 (by decide) (fun c_ => absurd c_ (by decide +kernel)) (fun _ => ?_)
  refine lv_lload_n hx hb dX0_fewestLiars_20 rfl (lv_at hl 2 rfl) ?_
  refine lv_iload hx hb dX0_fewestLiars_21 (lv_at hl 0 rfl) ?_
  refine lv_lshr (v := 0) hx hb dX0_fewestLiars_23 (by decide +kernel) ?_
  refine lv_lconst (v := 1) hx hb dX0_fewestLiars_24 (by decide) ?_
  refine lv_land hx hb dX0_fewestLiars_25 ?_
  refine k_l 0 (by decide +kernel) ?_
  refine lv_lconst (v := 0) hx hb dX0_fewestLiars_26 (by decide) ?_
  refine W.lcmp hx hb dX0_fewestLiars_27 ?_
  refine k_i 0 (by decide +kernel) ?_
  refine lv_if_eq (tgt := 43) hx hb dX0_fewestLiars_28 (by decide) (fun _ => ?_) (fun c_ => absurd (by decide +kernel) c_)
  refine lv_iinc (v := 4) (lv' := [(5, .int 4), (4, .int 0), (2, .long 1), (0, .ref a0), (1, .ref a1)]) hx hb dX0_fewestLiars_43 hl (k := 0) rfl (by decide +kernel) (by decide) rfl (fun ls hl => ?_)
  refine lv_goto (tgt := 13) hx hb dX0_fewestLiars_46 (by decide) ?_
  refine lv_iload hx hb dX0_fewestLiars_13 (lv_at hl 0 rfl) ?_
  refine lv_bipush (v := 64) hx hb dX0_fewestLiars_15 (by decide) ?_
  refine lv_icmp_ge (tgt := 49) hx hb dX0_fewestLiars_17 (by decide) (fun c_ => absurd c_ (by decide +kernel)) (fun _ => ?_)
  refine lv_lload_n hx hb dX0_fewestLiars_20 rfl (lv_at hl 2 rfl) ?_
  refine lv_iload hx hb dX0_fewestLiars_21 (lv_at hl 0 rfl) ?_
  refine lv_lshr (v := 0) hx hb dX0_fewestLiars_23 (by decide +kernel) ?_
  refine lv_lconst (v := 1) hx hb dX0_fewestLiars_24 (by decide) ?_
  refine lv_land hx hb dX0_fewestLiars_25 ?_
  refine k_l 0 (by decide +kernel) ?_
  refine lv_lconst (v := 0) hx hb dX0_fewestLiars_26 (by decide) ?_
  refine W.lcmp hx hb dX0_fewestLiars_27 ?_
  refine k_i 0 (by decide +kernel) ?_
  refine lv_if_eq (tgt := 43) hx hb dX0_fewestLiars_28 (by decide) (fun _ => ?_) (fun c_ => absurd (by decide +kernel) c_)
  refine lv_iinc (v := 5) (lv' := [(5, .int 5), (4, .int 0), (2, .long 1), (0, .ref a0), (1, .ref a1)]) hx hb dX0_fewestLiars_43 hl (k := 0) rfl (by decide +kernel) (by decide) rfl (fun ls hl => ?_)
  refine lv_goto (tgt := 13) hx hb dX0_fewestLiars_46 (by decide) ?_
  refine lv_iload hx hb dX0_fewestLiars_13 (lv_at hl 0 rfl) ?_
  refine lv_bipush (v := 64) hx hb dX0_fewestLiars_15 (by decide) ?_
  refine lv_icmp_ge (tgt := 49) hx hb dX0_fewestLiars_17 (by decide) (fun c_ => absurd c_ (by decide +kernel)) (fun _ => ?_)
  refine lv_lload_n hx hb dX0_fewestLiars_20 rfl (lv_at hl 2 rfl) ?_
  refine lv_iload hx hb dX0_fewestLiars_21 (lv_at hl 0 rfl) ?_
  refine lv_lshr (v := 0) hx hb dX0_fewestLiars_23 (by decide +kernel) ?_
  refine lv_lconst (v := 1) hx hb dX0_fewestLiars_24 (by decide) ?_
  refine lv_land hx hb dX0_fewestLiars_25 ?_
  refine k_l 0 (by decide +kernel) ?_
  refine lv_lconst (v := 0) hx hb dX0_fewestLiars_26 (by decide) ?_
  refine W.lcmp hx hb dX0_fewestLiars_27 ?_
  refine k_i 0 (by decide +kernel) ?_
  refine lv_if_eq (tgt := 43) hx hb dX0_fewestLiars_28 (by decide) (fun _ => ?_) (fun c_ => absurd (by decide +kernel) c_)
  refine lv_iinc (v := 6) (lv' := [(5, .int 6), (4, .int 0), (2, .long 1), (0, .ref a0), (1, .ref a1)]) hx hb dX0_fewestLiars_43 hl (k := 0) rfl (by decide +kernel) (by decide) rfl (fun ls hl => ?_)
  refine lv_goto (tgt := 13) hx hb dX0_fewestLiars_46 (by decide) ?_
  refine lv_iload hx hb dX0_fewestLiars_13 (lv_at hl 0 rfl) ?_
  refine lv_bipush (v := 64) hx hb dX0_fewestLiars_15 (by decide) ?_
  refine lv_icmp_ge (tgt := 49) hx hb dX0_fewestLiars_17 (by decide) (fun c_ => absurd c_ (by decide +kernel)) (fun _ => ?_)
  refine lv_lload_n hx hb dX0_fewestLiars_20 rfl (lv_at hl 2 rfl) ?_
  refine lv_iload hx hb dX0_fewestLiars_21 (lv_at hl 0 rfl) ?_
  refine lv_lshr (v := 0) hx hb dX0_fewestLiars_23 (by decide +kernel) ?_
  refine lv_lconst (v := 1) hx hb dX0_fewestLiars_24 (by decide) ?_
  refine lv_land hx hb dX0_fewestLiars_25 ?_
  refine k_l 0 (by decide +kernel) ?_
  refine lv_lconst (v := 0) hx hb dX0_fewestLiars_26 (by decide) ?_
  refine W.lcmp hx hb dX0_fewestLiars_27 ?_
  refine k_i 0 (by decide +kernel) ?_
  refine lv_if_eq (tgt := 43) hx hb dX0_fewestLiars_28 (by decide) (fun _ => ?_) (fun c_ => absurd (by decide +kernel) c_)
  refine lv_iinc (v := 7) (lv' := [(5, .int 7), (4, .int 0), (2, .long 1), (0, .ref a0), (1, .ref a1)]) hx hb dX0_fewestLiars_43 hl (k := 0) rfl (by decide +kernel) (by decide) rfl (fun ls hl => ?_)
  refine lv_goto (tgt := 13) hx hb dX0_fewestLiars_46 (by decide) ?_
  refine lv_iload hx hb dX0_fewestLiars_13 (lv_at hl 0 rfl) ?_
  refine lv_bipush (v := 64) hx hb dX0_fewestLiars_15 (by decide) ?_
  refine lv_icmp_ge (tgt := 49) hx hb dX0_fewestLiars_17 (by decide) (fun c_ => absurd c_ (by decide +kernel)) (fun _ => ?_)
  refine lv_lload_n hx hb dX0_fewestLiars_20 rfl (lv_at hl 2 rfl) ?_
  refine lv_iload hx hb dX0_fewestLiars_21 (lv_at hl 0 rfl) ?_
  refine lv_lshr (v := 0) hx hb dX0_fewestLiars_23 (by decide +kernel) ?_
  refine lv_lconst (v := 1) hx hb dX0_fewestLiars_24 (by decide) ?_
  refine lv_land hx hb dX0_fewestLiars_25 ?_
  refine k_l 0 (by decide +kernel) ?_
  refine lv_lconst (v := 0) hx hb dX0_fewestLiars_26 (by decide) ?_
  refine W.lcmp hx hb dX0_fewestLiars_27 ?_
  refine k_i 0 (by decide +kernel) ?_
  refine lv_if_eq (tgt := 43) hx hb dX0_fewestLiars_28 (by decide) (fun _ => ?_) (fun c_ => absurd (by decide +kernel) c_)
  refine lv_iinc (v := 8) (lv' := [(5, .int 8), (4, .int 0), (2, .long 1), (0, .ref a0), (1, .ref a1)]) hx hb dX0_fewestLiars_43 hl (k := 0) rfl (by decide +kernel) (by decide) rfl (fun ls hl => ?_)
  refine lv_goto (tgt := 13) hx hb dX0_fewestLiars_46 (by decide) ?_
  refine lv_iload hx hb dX0_fewestLiars_13 (lv_at hl 0 rfl) ?_
  refine lv_bipush (v := 64) hx hb dX0_fewestLiars_15 (by decide) ?_
  refine lv_icmp_ge (tgt := 49) hx hb dX0_fewestLiars_17 (by decide) (fun c_ => absurd c_ (by decide +kernel)) (fun _ => ?_)
  refine lv_lload_n hx hb dX0_fewestLiars_20 rfl (lv_at hl 2 rfl) ?_
  refine lv_iload hx hb dX0_fewestLiars_21 (lv_at hl 0 rfl) ?_
  refine lv_lshr (v := 0) hx hb dX0_fewestLiars_23 (by decide +kernel) ?_
  refine lv_lconst (v := 1) hx hb dX0_fewestLiars_24 (by decide) ?_
  refine lv_land hx hb dX0_fewestLiars_25 ?_
  refine k_l 0 (by decide +kernel) ?_
  refine lv_lconst (v := 0) hx hb dX0_fewestLiars_26 (by decide) ?_
  refine W.lcmp hx hb dX0_fewestLiars_27 ?_
  refine k_i 0 (by decide +kernel) ?_
  refine lv_if_eq (tgt := 43) hx hb dX0_fewestLiars_28 (by decide) (fun _ => ?_) (fun c_ => absurd (by decide +kernel) c_)
  refine lv_iinc (v := 9) (lv' := [(5, .int 9), (4, .int 0), (2, .long 1), (0, .ref a0), (1, .ref a1)]) hx hb dX0_fewestLiars_43 hl (k := 0) rfl (by decide +kernel) (by decide) rfl (fun ls hl => ?_)
  refine lv_goto (tgt := 13) hx hb dX0_fewestLiars_46 (by decide) ?_
  refine lv_iload hx hb dX0_fewestLiars_13 (lv_at hl 0 rfl) ?_
  refine lv_bipush (v := 64) hx hb dX0_fewestLiars_15 (by decide) ?_
  refine lv_icmp_ge (tgt := 49) hx hb dX0_fewestLiars_17 (by decide) (fun c_ => absurd c_ (by decide +kernel)) (fun _ => ?_)
  refine lv_lload_n hx hb dX0_fewestLiars_20 rfl (lv_at hl 2 rfl) ?_
  refine lv_iload hx hb dX0_fewestLiars_21 (lv_at hl 0 rfl) ?_
  refine lv_lshr (v := 0) hx hb dX0_fewestLiars_23 (by decide +kernel) ?_
  refine lv_lconst (v := 1) hx hb dX0_fewestLiars_24 (by decide) ?_
  refine lv_land hx hb dX0_fewestLiars_25 ?_
  refine k_l 0 (by decide +kernel) ?_
  refine lv_lconst (v := 0) hx hb dX0_fewestLiars_26 (by decide) ?_
  refine W.lcmp hx hb dX0_fewestLiars_27 ?_
  refine k_i 0 (by decide +kernel) ?_
  refine lv_if_eq (tgt := 43) hx hb dX0_fewestLiars_28 (by decide) (fun _ => ?_) (fun c_ => absurd (by decide +kernel) c_)
  refine lv_iinc (v := 10) (lv' := [(5, .int 10), (4, .int 0), (2, .long 1), (0, .ref a0), (1, .ref a1)]) hx hb dX0_fewestLiars_43 hl (k := 0) rfl (by decide +kernel) (by decide) rfl (fun ls hl => ?_)
  refine lv_goto (tgt := 13) hx hb dX0_fewestLiars_46 (by decide) ?_
  refine lv_iload hx hb dX0_fewestLiars_13 (lv_at hl 0 rfl) ?_
  refine lv_bipush (v := 64) hx hb dX0_fewestLiars_15 (by decide) ?_
  refine lv_icmp_ge (tgt := 49) hx hb dX0_fewestLiars_17 (by decide) (fun c_ => absurd c_ (by decide +kernel)) (fun _ => ?_)
  refine lv_lload_n hx hb dX0_fewestLiars_20 rfl (lv_at hl 2 rfl) ?_
  refine lv_iload hx hb dX0_fewestLiars_21 (lv_at hl 0 rfl) ?_
  refine lv_lshr (v := 0) hx hb dX0_fewestLiars_23 (by decide +kernel) ?_
  refine lv_lconst (v := 1) hx hb dX0_fewestLiars_24 (by decide) ?_
  refine lv_land hx hb dX0_fewestLiars_25 ?_
  refine k_l 0 (by decide +kernel) ?_
  refine lv_lconst (v := 0) hx hb dX0_fewestLiars_26 (by decide) ?_
  refine W.lcmp hx hb dX0_fewestLiars_27 ?_
  refine k_i 0 (by decide +kernel) ?_
  refine lv_if_eq (tgt := 43) hx hb dX0_fewestLiars_28 (by decide) (fun _ => ?_) (fun c_ => absurd (by decide +kernel) c_)
  refine lv_iinc (v := 11) (lv' := [(5, .int 11), (4, .int 0), (2, .long 1), (0, .ref a0), (1, .ref a1)]) hx hb dX0_fewestLiars_43 hl (k := 0) rfl (by decide +kernel) (by decide) rfl (fun ls hl => ?_)
  refine lv_goto (tgt := 13) hx hb dX0_fewestLiars_46 (by decide) ?_
  refine lv_iload hx hb dX0_fewestLiars_13 (lv_at hl 0 rfl) ?_
  refine lv_bipush (v := 64) hx hb dX0_fewestLiars_15 (by decide) ?_
  refine lv_icmp_ge (tgt := 49) hx hb dX0_fewestLiars_17 (by decide) (fun c_ => absurd c_ (by decide +kernel)) (fun _ => ?_)
  refine lv_lload_n hx hb dX0_fewestLiars_20 rfl (lv_at hl 2 rfl) ?_
  refine lv_iload hx hb dX0_fewestLiars_21 (lv_at hl 0 rfl) ?_
  refine lv_lshr (v := 0) hx hb dX0_fewestLiars_23 (by decide +kernel) ?_
  refine lv_lconst (v := 1) hx hb dX0_fewestLiars_24 (by decide) ?_
  refine lv_land hx hb dX0_fewestLiars_25 ?_
  refine k_l 0 (by decide +kernel) ?_
  refine lv_lconst (v := 0) hx hb dX0_fewestLiars_26 (by decide) ?_
  refine W.lcmp hx hb dX0_fewestLiars_27 ?_
  refine k_i 0 (by decide +kernel) ?_
  refine lv_if_eq (tgt := 43) hx hb dX0_fewestLiars_28 (by decide) (fun _ => ?_) (fun c_ => absurd (by decide +kernel) c_)
  refine lv_iinc (v := 12) (lv' := [(5, .int 12), (4, .int 0), (2, .long 1), (0, .ref a0), (1, .ref a1)]) hx hb dX0_fewestLiars_43 hl (k := 0) rfl (by decide +kernel) (by decide) rfl (fun ls hl => ?_)
  refine lv_goto (tgt := 13) hx hb dX0_fewestLiars_46 (by decide) ?_
  refine lv_iload hx hb dX0_fewestLiars_13 (lv_at hl 0 rfl) ?_
  refine lv_bipush (v := 64) hx hb dX0_fewestLiars_15 (by decide) ?_
  refine lv_icmp_ge (tgt := 49) hx hb dX0_fewestLiars_17 (by decide) (fun c_ => absurd c_ (by decide +kernel)) (fun _ => ?_)
  refine lv_lload_n hx hb dX0_fewestLiars_20 rfl (lv_at hl 2 rfl) ?_
  refine lv_iload hx hb dX0_fewestLiars_21 (lv_at hl 0 rfl) ?_
  refine lv_lshr (v := 0) hx hb dX0_fewestLiars_23 (by decide +kernel) ?_
  refine lv_lconst (v := 1) hx hb dX0_fewestLiars_24 (by decide) ?_
  refine lv_land hx hb dX0_fewestLiars_25 ?_
  refine k_l 0 (by decide +kernel) ?_
  refine lv_lconst (v := 0) hx hb dX0_fewestLiars_26 (by decide) ?_
  refine W.lcmp hx hb dX0_fewestLiars_27 ?_
  refine k_i 0 (by decide +kernel) ?_
  refine lv_if_eq (tgt := 43) hx hb dX0_fewestLiars_28 (by decide) (fun _ => ?_) (fun c_ => absurd (by decide +kernel) c_)
  refine lv_iinc (v := 13) (lv' := [(5, .int 13), (4, .int 0), (2, .long 1), (0, .ref a0), (1, .ref a1)]) hx hb dX0_fewestLiars_43 hl (k := 0) rfl (by decide +kernel) (by decide) rfl (fun ls hl => ?_)
  refine lv_goto (tgt := 13) hx hb dX0_fewestLiars_46 (by decide) ?_
  refine lv_iload hx hb dX0_fewestLiars_13 (lv_at hl 0 rfl) ?_
  refine lv_bipush (v := 64) hx hb dX0_fewestLiars_15 (by decide) ?_
  refine lv_icmp_ge (tgt := 49) hx hb dX0_fewestLiars_17 (by decide) (fun c_ => absurd c_ (by decide +kernel)) (fun _ => ?_)
  refine lv_lload_n hx hb dX0_fewestLiars_20 rfl (lv_at hl 2 rfl) ?_
  refine lv_iload hx hb dX0_fewestLiars_21 (lv_at hl 0 rfl) ?_
  refine lv_lshr (v := 0) hx hb dX0_fewestLiars_23 (by decide +kernel) ?_
  refine lv_lconst (v := 1) hx hb dX0_fewestLiars_24 (by decide) ?_
  refine lv_land hx hb dX0_fewestLiars_25 ?_
  refine k_l 0 (by decide +kernel) ?_
  refine lv_lconst (v := 0) hx hb dX0_fewestLiars_26 (by decide) ?_
  refine W.lcmp hx hb dX0_fewestLiars_27 ?_
  refine k_i 0 (by decide +kernel) ?_
  refine lv_if_eq (tgt := 43) hx hb dX0_fewestLiars_28 (by decide) (fun _ => ?_) (fun c_ => absurd (by decide +kernel) c_)
  refine lv_iinc (v := 14) (lv' := [(5, .int 14), (4, .int 0), (2, .long 1), (0, .ref a0), (1, .ref a1)]) hx hb dX0_fewestLiars_43 hl (k := 0) rfl (by decide +kernel) (by decide) rfl (fun ls hl => ?_)
  refine lv_goto (tgt := 13) hx hb dX0_fewestLiars_46 (by decide) ?_
  refine lv_iload hx hb dX0_fewestLiars_13 (lv_at hl 0 rfl) ?_
  refine lv_bipush (v := 64) hx hb dX0_fewestLiars_15 (by decide) ?_
  refine lv_icmp_ge (tgt := 49) hx hb dX0_fewestLiars_17 (by decide) (fun c_ => absurd c_ (by decide +kernel)) (fun _ => ?_)
  refine lv_lload_n hx hb dX0_fewestLiars_20 rfl (lv_at hl 2 rfl) ?_
  refine lv_iload hx hb dX0_fewestLiars_21 (lv_at hl 0 rfl) ?_
  refine lv_lshr (v := 0) hx hb dX0_fewestLiars_23 (by decide +kernel) ?_
  refine lv_lconst (v := 1) hx hb dX0_fewestLiars_24 (by decide) ?_
  refine lv_land hx hb dX0_fewestLiars_25 ?_
  refine k_l 0 (by decide +kernel) ?_
  refine lv_lconst (v := 0) hx hb dX0_fewestLiars_26 (by decide) ?_
  refine W.lcmp hx hb dX0_fewestLiars_27 ?_
  refine k_i 0 (by decide +kernel) ?_
  refine lv_if_eq (tgt := 43) hx hb dX0_fewestLiars_28 (by decide) (fun _ => ?_) (fun c_ => absurd (by decide +kernel) c_)
  refine lv_iinc (v := 15) (lv' := [(5, .int 15), (4, .int 0), (2, .long 1), (0, .ref a0), (1, .ref a1)]) hx hb dX0_fewestLiars_43 hl (k := 0) rfl (by decide +kernel) (by decide) rfl (fun ls hl => ?_)
  refine lv_goto (tgt := 13) hx hb dX0_fewestLiars_46 (by decide) ?_
  refine lv_iload hx hb dX0_fewestLiars_13 (lv_at hl 0 rfl) ?_
  refine lv_bipush (v := 64) hx hb dX0_fewestLiars_15 (by decide) ?_
  refine lv_icmp_ge (tgt := 49) hx hb dX0_fewestLiars_17 (by decide) (fun c_ => absurd c_ (by decide +kernel)) (fun _ => ?_)
  refine lv_lload_n hx hb dX0_fewestLiars_20 rfl (lv_at hl 2 rfl) ?_
  refine lv_iload hx hb dX0_fewestLiars_21 (lv_at hl 0 rfl) ?_
  refine lv_lshr (v := 0) hx hb dX0_fewestLiars_23 (by decide +kernel) ?_
  refine lv_lconst (v := 1) hx hb dX0_fewestLiars_24 (by decide) ?_
  refine lv_land hx hb dX0_fewestLiars_25 ?_
  refine k_l 0 (by decide +kernel) ?_
  refine lv_lconst (v := 0) hx hb dX0_fewestLiars_26 (by decide) ?_
  refine W.lcmp hx hb dX0_fewestLiars_27 ?_
  refine k_i 0 (by decide +kernel) ?_
  refine lv_if_eq (tgt := 43) hx hb dX0_fewestLiars_28 (by decide) (fun _ => ?_) (fun c_ => absurd (by decide +kernel) c_)
  refine lv_iinc (v := 16) (lv' := [(5, .int 16), (4, .int 0), (2, .long 1), (0, .ref a0), (1, .ref a1)]) hx hb dX0_fewestLiars_43 hl (k := 0) rfl (by decide +kernel) (by decide) rfl (fun ls hl => ?_)
  refine lv_goto (tgt := 13) hx hb dX0_fewestLiars_46 (by decide) ?_
  refine lv_iload hx hb dX0_fewestLiars_13 (lv_at hl 0 rfl) ?_
  refine lv_bipush (v := 64) hx hb dX0_fewestLiars_15 (by decide) ?_
  refine lv_icmp_ge (tgt := 49) hx hb dX0_fewestLiars_17 (by decide) (fun c_ => absurd c_ (by decide +kernel)) (fun _ => ?_)
  refine lv_lload_n hx hb dX0_fewestLiars_20 rfl (lv_at hl 2 rfl) ?_
  refine lv_iload hx hb dX0_fewestLiars_21 (lv_at hl 0 rfl) ?_
  refine lv_lshr (v := 0) hx hb dX0_fewestLiars_23 (by decide +kernel) ?_
  refine lv_lconst (v := 1) hx hb dX0_fewestLiars_24 (by decide) ?_
  refine lv_land hx hb dX0_fewestLiars_25 ?_
  refine k_l 0 (by decide +kernel) ?_
  refine lv_lconst (v := 0) hx hb dX0_fewestLiars_26 (by decide) ?_
  refine W.lcmp hx hb dX0_fewestLiars_27 ?_
  refine k_i 0 (by decide +kernel) ?_
  refine lv_if_eq (tgt := 43) hx hb dX0_fewestLiars_28 (by decide) (fun _ => ?_) (fun c_ => absurd (by decide +kernel) c_)
  refine lv_iinc (v := 17) (lv' := [(5, .int 17), (4, .int 0), (2, .long 1), (0, .ref a0), (1, .ref a1)]) hx hb dX0_fewestLiars_43 hl (k := 0) rfl (by decide +kernel) (by decide) rfl (fun ls hl => ?_)
  refine lv_goto (tgt := 13) hx hb dX0_fewestLiars_46 (by decide) ?_
  refine lv_iload hx hb dX0_fewestLiars_13 (lv_at hl 0 rfl) ?_
  refine lv_bipush (v := 64) hx hb dX0_fewestLiars_15 (by decide) ?_
  refine lv_icmp_ge (tgt := 49) hx hb dX0_fewestLiars_17 (by decide) (fun c_ => absurd c_ (by decide +kernel)) (fun _ => ?_)
  refine lv_lload_n hx hb dX0_fewestLiars_20 rfl (lv_at hl 2 rfl) ?_
  refine lv_iload hx hb dX0_fewestLiars_21 (lv_at hl 0 rfl) ?_
  refine lv_lshr (v := 0) hx hb dX0_fewestLiars_23 (by decide +kernel) ?_
  refine lv_lconst (v := 1) hx hb dX0_fewestLiars_24 (by decide) ?_
  refine lv_land hx hb dX0_fewestLiars_25 ?_
  refine k_l 0 (by decide +kernel) ?_
  refine lv_lconst (v := 0) hx hb dX0_fewestLiars_26 (by decide) ?_
  refine W.lcmp hx hb dX0_fewestLiars_27 ?_
  refine k_i 0 (by decide +kernel) ?_
  refine lv_if_eq (tgt := 43) hx hb dX0_fewestLiars_28 (by decide) (fun _ => ?_) (fun c_ => absurd (by decide +kernel) c_)
  refine lv_iinc (v := 18) (lv' := [(5, .int 18), (4, .int 0), (2, .long 1), (0, .ref a0), (1, .ref a1)]) hx hb dX0_fewestLiars_43 hl (k := 0) rfl (by decide +kernel) (by decide) rfl (fun ls hl => ?_)
  refine lv_goto (tgt := 13) hx hb dX0_fewestLiars_46 (by decide) ?_
  refine lv_iload hx hb dX0_fewestLiars_13 (lv_at hl 0 rfl) ?_
  refine lv_bipush (v := 64) hx hb dX0_fewestLiars_15 (by decide) ?_
  refine lv_icmp_ge (tgt := 49) hx hb dX0_fewestLiars_17 (by decide) (fun c_ => absurd c_ (by decide +kernel)) (fun _ => ?_)
  refine lv_lload_n hx hb dX0_fewestLiars_20 rfl (lv_at hl 2 rfl) ?_
  refine lv_iload hx hb dX0_fewestLiars_21 (lv_at hl 0 rfl) ?_
  refine lv_lshr (v := 0) hx hb dX0_fewestLiars_23 (by decide +kernel) ?_
  refine lv_lconst (v := 1) hx hb dX0_fewestLiars_24 (by decide) ?_
  refine lv_land hx hb dX0_fewestLiars_25 ?_
  refine k_l 0 (by decide +kernel) ?_
  refine lv_lconst (v := 0) hx hb dX0_fewestLiars_26 (by decide) ?_
  refine W.lcmp hx hb dX0_fewestLiars_27 ?_
  refine k_i 0 (by decide +kernel) ?_
  refine lv_if_eq (tgt := 43) hx hb dX0_fewestLiars_28 (by decide) (fun _ => ?_) (fun c_ => absurd (by decide +kernel) c_)
  refine lv_iinc (v := 19) (lv' := [(5, .int 19), (4, .int 0), (2, .long 1), (0, .ref a0), (1, .ref a1)]) hx hb dX0_fewestLiars_43 hl (k := 0) rfl (by decide +kernel) (by decide) rfl (fun ls hl => ?_)
  refine lv_goto (tgt := 13) hx hb dX0_fewestLiars_46 (by decide) ?_
  refine lv_iload hx hb dX0_fewestLiars_13 (lv_at hl 0 rfl) ?_
  refine lv_bipush (v := 64) hx hb dX0_fewestLiars_15 (by decide) ?_
  refine lv_icmp_ge (tgt := 49) hx hb dX0_fewestLiars_17 (by decide) (fun c_ => absurd c_ (by decide +kernel)) (fun _ => ?_)
  refine lv_lload_n hx hb dX0_fewestLiars_20 rfl (lv_at hl 2 rfl) ?_
  refine lv_iload hx hb dX0_fewestLiars_21 (lv_at hl 0 rfl) ?_
  refine lv_lshr (v := 0) hx hb dX0_fewestLiars_23 (by decide +kernel) ?_
  refine lv_lconst (v := 1) hx hb dX0_fewestLiars_24 (by decide) ?_
  refine lv_land hx hb dX0_fewestLiars_25 ?_
  refine k_l 0 (by decide +kernel) ?_
  refine lv_lconst (v := 0) hx hb dX0_fewestLiars_26 (by decide) ?_
  refine W.lcmp hx hb dX0_fewestLiars_27 ?_
  refine k_i 0 (by decide +kernel) ?_
  refine lv_if_eq (tgt := 43) hx hb dX0_fewestLiars_28 (by decide) (fun _ => ?_) (fun c_ => absurd (by decide +kernel) c_)
  refine lv_iinc (v := 20) (lv' := [(5, .int 20), (4, .int 0), (2, .long 1), (0, .ref a0), (1, .ref a1)]) hx hb dX0_fewestLiars_43 hl (k := 0) rfl (by decide +kernel) (by decide) rfl (fun ls hl => ?_)
  refine lv_goto (tgt := 13) hx hb dX0_fewestLiars_46 (by decide) ?_
  refine lv_iload hx hb dX0_fewestLiars_13 (lv_at hl 0 rfl) ?_
  refine lv_bipush (v := 64) hx hb dX0_fewestLiars_15 (by decide) ?_
  refine lv_icmp_ge (tgt := 49) hx hb dX0_fewestLiars_17 (by decide) (fun c_ => absurd c_ (by decide +kernel)) (fun _ => ?_)
  refine lv_lload_n hx hb dX0_fewestLiars_20 rfl (lv_at hl 2 rfl) ?_
  refine lv_iload hx hb dX0_fewestLiars_21 (lv_at hl 0 rfl) ?_
  refine lv_lshr (v := 0) hx hb dX0_fewestLiars_23 (by decide +kernel) ?_
  refine lv_lconst (v := 1) hx hb dX0_fewestLiars_24 (by decide) ?_
  refine lv_land hx hb dX0_fewestLiars_25 ?_
  refine k_l 0 (by decide +kernel) ?_
  refine lv_lconst (v := 0) hx hb dX0_fewestLiars_26 (by decide) ?_
  refine W.lcmp hx hb dX0_fewestLiars_27 ?_
  refine k_i 0 (by decide +kernel) ?_
  refine lv_if_eq (tgt := 43) hx hb dX0_fewestLiars_28 (by decide) (fun _ => ?_) (fun c_ => absurd (by decide +kernel) c_)
  refine lv_iinc (v := 21) (lv' := [(5, .int 21), (4, .int 0), (2, .long 1), (0, .ref a0), (1, .ref a1)]) hx hb dX0_fewestLiars_43 hl (k := 0) rfl (by decide +kernel) (by decide) rfl (fun ls hl => ?_)
  refine lv_goto (tgt := 13) hx hb dX0_fewestLiars_46 (by decide) ?_
  refine lv_iload hx hb dX0_fewestLiars_13 (lv_at hl 0 rfl) ?_
  refine lv_bipush (v := 64) hx hb dX0_fewestLiars_15 (by decide) ?_
  refine lv_icmp_ge (tgt := 49) hx hb dX0_fewestLiars_17 (by decide) (fun c_ => absurd c_ (by decide +kernel)) (fun _ => ?_)
  refine lv_lload_n hx hb dX0_fewestLiars_20 rfl (lv_at hl 2 rfl) ?_
  refine lv_iload hx hb dX0_fewestLiars_21 (lv_at hl 0 rfl) ?_
  refine lv_lshr (v := 0) hx hb dX0_fewestLiars_23 (by decide +kernel) ?_
  refine lv_lconst (v := 1) hx hb dX0_fewestLiars_24 (by decide) ?_
  refine lv_land hx hb dX0_fewestLiars_25 ?_
  refine k_l 0 (by decide +kernel) ?_
  refine lv_lconst (v := 0) hx hb dX0_fewestLiars_26 (by decide) ?_
  refine W.lcmp hx hb dX0_fewestLiars_27 ?_
  refine k_i 0 (by decide +kernel) ?_
  refine lv_if_eq (tgt := 43) hx hb dX0_fewestLiars_28 (by decide) (fun _ => ?_) (fun c_ => absurd (by decide +kernel) c_)
  refine lv_iinc (v := 22) (lv' := [(5, .int 22), (4, .int 0), (2, .long 1), (0, .ref a0), (1, .ref a1)]) hx hb dX0_fewestLiars_43 hl (k := 0) rfl (by decide +kernel) (by decide) rfl (fun ls hl => ?_)
  refine lv_goto (tgt := 13) hx hb dX0_fewestLiars_46 (by decide) ?_
  refine lv_iload hx hb dX0_fewestLiars_13 (lv_at hl 0 rfl) ?_
  refine lv_bipush (v := 64) hx hb dX0_fewestLiars_15 (by decide) ?_
  refine lv_icmp_ge (tgt := 49) hx hb dX0_fewestLiars_17 (by decide) (fun c_ => absurd c_ (by decide +kernel)) (fun _ => ?_)
  refine lv_lload_n hx hb dX0_fewestLiars_20 rfl (lv_at hl 2 rfl) ?_
  refine lv_iload hx hb dX0_fewestLiars_21 (lv_at hl 0 rfl) ?_
  refine lv_lshr (v := 0) hx hb dX0_fewestLiars_23 (by decide +kernel) ?_
  refine lv_lconst (v := 1) hx hb dX0_fewestLiars_24 (by decide) ?_
  refine lv_land hx hb dX0_fewestLiars_25 ?_
  refine k_l 0 (by decide +kernel) ?_
  refine lv_lconst (v := 0) hx hb dX0_fewestLiars_26 (by decide) ?_
  refine W.lcmp hx hb dX0_fewestLiars_27 ?_
  refine k_i 0 (by decide +kernel) ?_
  refine lv_if_eq (tgt := 43) hx hb dX0_fewestLiars_28 (by decide) (fun _ => ?_) (fun c_ => absurd (by decide +kernel) c_)
  refine lv_iinc (v := 23) (lv' := [(5, .int 23), (4, .int 0), (2, .long 1), (0, .ref a0), (1, .ref a1)]) hx hb dX0_fewestLiars_43 hl (k := 0) rfl (by decide +kernel) (by decide) rfl (fun ls hl => ?_)
  refine lv_goto (tgt := 13) hx hb dX0_fewestLiars_46 (by decide) ?_
  refine lv_iload hx hb dX0_fewestLiars_13 (lv_at hl 0 rfl) ?_
  refine lv_bipush (v := 64) hx hb dX0_fewestLiars_15 (by decide) ?_
  refine lv_icmp_ge (tgt := 49) hx hb dX0_fewestLiars_17 (by decide) (fun c_ => absurd c_ (by decide +kernel)) (fun _ => ?_)
  refine lv_lload_n hx hb dX0_fewestLiars_20 rfl (lv_at hl 2 rfl) ?_
  refine lv_iload hx hb dX0_fewestLiars_21 (lv_at hl 0 rfl) ?_
  refine lv_lshr (v := 0) hx hb dX0_fewestLiars_23 (by decide +kernel) ?_
  refine lv_lconst (v := 1) hx hb dX0_fewestLiars_24 (by decide) ?_
  refine lv_land hx hb dX0_fewestLiars_25 ?_
  refine k_l 0 (by decide +kernel) ?_
  refine lv_lconst (v := 0) hx hb dX0_fewestLiars_26 (by decide) ?_
  refine W.lcmp hx hb dX0_fewestLiars_27 ?_
  refine k_i 0 (by decide +kernel) ?_
  refine lv_if_eq (tgt := 43) hx hb dX0_fewestLiars_28 (by decide) (fun _ => ?_) (fun c_ => absurd (by decide +kernel) c_)
  refine lv_iinc (v := 24) (lv' := [(5, .int 24), (4, .int 0), (2, .long 1), (0, .ref a0), (1, .ref a1)]) hx hb dX0_fewestLiars_43 hl (k := 0) rfl (by decide +kernel) (by decide) rfl (fun ls hl => ?_)
  refine lv_goto (tgt := 13) hx hb dX0_fewestLiars_46 (by decide) ?_
  refine lv_iload hx hb dX0_fewestLiars_13 (lv_at hl 0 rfl) ?_
  refine lv_bipush (v := 64) hx hb dX0_fewestLiars_15 (by decide) ?_
  refine lv_icmp_ge (tgt := 49) hx hb dX0_fewestLiars_17 (by decide) (fun c_ => absurd c_ (by decide +kernel)) (fun _ => ?_)
  refine lv_lload_n hx hb dX0_fewestLiars_20 rfl (lv_at hl 2 rfl) ?_
  refine lv_iload hx hb dX0_fewestLiars_21 (lv_at hl 0 rfl) ?_
  refine lv_lshr (v := 0) hx hb dX0_fewestLiars_23 (by decide +kernel) ?_
  refine lv_lconst (v := 1) hx hb dX0_fewestLiars_24 (by decide) ?_
  refine lv_land hx hb dX0_fewestLiars_25 ?_
  refine k_l 0 (by decide +kernel) ?_
  refine lv_lconst (v := 0) hx hb dX0_fewestLiars_26 (by decide) ?_
  refine W.lcmp hx hb dX0_fewestLiars_27 ?_
  refine k_i 0 (by decide +kernel) ?_
  refine lv_if_eq (tgt := 43) hx hb dX0_fewestLiars_28 (by decide) (fun _ => ?_) (fun c_ => absurd (by decide +kernel) c_)
  refine lv_iinc (v := 25) (lv' := [(5, .int 25), (4, .int 0), (2, .long 1), (0, .ref a0), (1, .ref a1)]) hx hb dX0_fewestLiars_43 hl (k := 0) rfl (by decide +kernel) (by decide) rfl (fun ls hl => ?_)
  refine lv_goto (tgt := 13) hx hb dX0_fewestLiars_46 (by decide) ?_
  refine lv_iload hx hb dX0_fewestLiars_13 (lv_at hl 0 rfl) ?_
  refine lv_bipush (v := 64) hx hb dX0_fewestLiars_15 (by decide) ?_
  refine lv_icmp_ge (tgt := 49) hx hb dX0_fewestLiars_17 (by decide) (fun c_ => absurd c_ (by decide +kernel)) (fun _ => ?_)
  refine lv_lload_n hx hb dX0_fewestLiars_20 rfl (lv_at hl 2 rfl) ?_
  refine lv_iload hx hb dX0_fewestLiars_21 (lv_at hl 0 rfl) ?_
  refine lv_lshr (v := 0) hx hb dX0_fewestLiars_23 (by decide +kernel) ?_
  refine lv_lconst (v := 1) hx hb dX0_fewestLiars_24 (by decide) ?_
  refine lv_land hx hb dX0_fewestLiars_25 ?_
  refine k_l 0 (by decide +kernel) ?_
  refine lv_lconst (v := 0) hx hb dX0_fewestLiars_26 (by decide) ?_
  refine W.lcmp hx hb dX0_fewestLiars_27 ?_
  refine k_i 0 (by decide +kernel) ?_
  refine lv_if_eq (tgt := 43) hx hb dX0_fewestLiars_28 (by decide) (fun _ => ?_) (fun c_ => absurd (by decide +kernel) c_)
  refine lv_iinc (v := 26) (lv' := [(5, .int 26), (4, .int 0), (2, .long 1), (0, .ref a0), (1, .ref a1)]) hx hb dX0_fewestLiars_43 hl (k := 0) rfl (by decide +kernel) (by decide) rfl (fun ls hl => ?_)
  refine lv_goto (tgt := 13) hx hb dX0_fewestLiars_46 (by decide) ?_
  refine lv_iload hx hb dX0_fewestLiars_13 (lv_at hl 0 rfl) ?_
  refine lv_bipush (v := 64) hx hb dX0_fewestLiars_15 (by decide) ?_
  refine lv_icmp_ge (tgt := 49) hx hb dX0_fewestLiars_17 (by decide) (fun c_ => absurd c_ (by decide +kernel)) (fun _ => ?_)
  refine lv_lload_n hx hb dX0_fewestLiars_20 rfl (lv_at hl 2 rfl) ?_
  refine lv_iload hx hb dX0_fewestLiars_21 (lv_at hl 0 rfl) ?_
  refine lv_lshr (v := 0) hx hb dX0_fewestLiars_23 (by decide +kernel) ?_
  refine lv_lconst (v := 1) hx hb dX0_fewestLiars_24 (by decide) ?_
  refine lv_land hx hb dX0_fewestLiars_25 ?_
  refine k_l 0 (by decide +kernel) ?_
  refine lv_lconst (v := 0) hx hb dX0_fewestLiars_26 (by decide) ?_
  refine W.lcmp hx hb dX0_fewestLiars_27 ?_
  refine k_i 0 (by decide +kernel) ?_
  refine lv_if_eq (tgt := 43) hx hb dX0_fewestLiars_28 (by decide) (fun _ => ?_) (fun c_ => absurd (by decide +kernel) c_)
  refine lv_iinc (v := 27) (lv' := [(5, .int 27), (4, .int 0), (2, .long 1), (0, .ref a0), (1, .ref a1)]) hx hb dX0_fewestLiars_43 hl (k := 0) rfl (by decide +kernel) (by decide) rfl (fun ls hl => ?_)
  refine lv_goto (tgt := 13) hx hb dX0_fewestLiars_46 (by decide) ?_
  refine lv_iload hx hb dX0_fewestLiars_13 (lv_at hl 0 rfl) ?_
  refine lv_bipush (v := 64) hx hb dX0_fewestLiars_15 (by decide) ?_
  refine lv_icmp_ge (tgt := 49) hx hb dX0_fewestLiars_17 (by decide) (fun c_ => absurd c_ (by decide +kernel)) (fun _ => ?_)
  refine lv_lload_n hx hb dX0_fewestLiars_20 rfl (lv_at hl 2 rfl) ?_
  refine lv_iload hx hb dX0_fewestLiars_21 (lv_at hl 0 rfl) ?_
  refine lv_lshr (v := 0) hx hb dX0_fewestLiars_23 (by decide +kernel) ?_
  refine lv_lconst (v := 1) hx hb dX0_fewestLiars_24 (by decide) ?_
  refine lv_land hx hb dX0_fewestLiars_25 ?_
  refine k_l 0 (by decide +kernel) ?_
  refine lv_lconst (v := 0) hx hb dX0_fewestLiars_26 (by decide) ?_
  refine W.lcmp hx hb dX0_fewestLiars_27 ?_
  refine k_i 0 (by decide +kernel) ?_
  refine lv_if_eq (tgt := 43) hx hb dX0_fewestLiars_28 (by decide) (fun _ => ?_) (fun c_ => absurd (by decide +kernel) c_)
  refine lv_iinc (v := 28) (lv' := [(5, .int 28), (4, .int 0), (2, .long 1), (0, .ref a0), (1, .ref a1)]) hx hb dX0_fewestLiars_43 hl (k := 0) rfl (by decide +kernel) (by decide) rfl (fun ls hl => ?_)
  refine lv_goto (tgt := 13) hx hb dX0_fewestLiars_46 (by decide) ?_
  refine lv_iload hx hb dX0_fewestLiars_13 (lv_at hl 0 rfl) ?_
  refine lv_bipush (v := 64) hx hb dX0_fewestLiars_15 (by decide) ?_
  refine lv_icmp_ge (tgt := 49) hx hb dX0_fewestLiars_17 (by decide) (fun c_ => absurd c_ (by decide +kernel)) (fun _ => ?_)
  refine lv_lload_n hx hb dX0_fewestLiars_20 rfl (lv_at hl 2 rfl) ?_
  refine lv_iload hx hb dX0_fewestLiars_21 (lv_at hl 0 rfl) ?_
  refine lv_lshr (v := 0) hx hb dX0_fewestLiars_23 (by decide +kernel) ?_
  refine lv_lconst (v := 1) hx hb dX0_fewestLiars_24 (by decide) ?_
  refine lv_land hx hb dX0_fewestLiars_25 ?_
  refine k_l 0 (by decide +kernel) ?_
  refine lv_lconst (v := 0) hx hb dX0_fewestLiars_26 (by decide) ?_
  refine W.lcmp hx hb dX0_fewestLiars_27 ?_
  refine k_i 0 (by decide +kernel) ?_
  refine lv_if_eq (tgt := 43) hx hb dX0_fewestLiars_28 (by decide) (fun _ => ?_) (fun c_ => absurd (by decide +kernel) c_)
  refine lv_iinc (v := 29) (lv' := [(5, .int 29), (4, .int 0), (2, .long 1), (0, .ref a0), (1, .ref a1)]) hx hb dX0_fewestLiars_43 hl (k := 0) rfl (by decide +kernel) (by decide) rfl (fun ls hl => ?_)
  refine lv_goto (tgt := 13) hx hb dX0_fewestLiars_46 (by decide) ?_
  refine lv_iload hx hb dX0_fewestLiars_13 (lv_at hl 0 rfl) ?_
  refine lv_bipush (v := 64) hx hb dX0_fewestLiars_15 (by decide) ?_
  refine lv_icmp_ge (tgt := 49) hx hb dX0_fewestLiars_17 (by decide) (fun c_ => absurd c_ (by decide +kernel)) (fun _ => ?_)
  refine lv_lload_n hx hb dX0_fewestLiars_20 rfl (lv_at hl 2 rfl) ?_
  refine lv_iload hx hb dX0_fewestLiars_21 (lv_at hl 0 rfl) ?_
  refine lv_lshr (v := 0) hx hb dX0_fewestLiars_23 (by decide +kernel) ?_
  refine lv_lconst (v := 1) hx hb dX0_fewestLiars_24 (by decide) ?_
  refine lv_land hx hb dX0_fewestLiars_25 ?_
  refine k_l 0 (by decide +kernel) ?_
  refine lv_lconst (v := 0) hx hb dX0_fewestLiars_26 (by decide) ?_
  refine W.lcmp hx hb dX0_fewestLiars_27 ?_
  refine k_i 0 (by decide +kernel) ?_
  refine lv_if_eq (tgt := 43) hx hb dX0_fewestLiars_28 (by decide) (fun _ => ?_) (fun c_ => absurd (by decide +kernel) c_)
  refine lv_iinc (v := 30) (lv' := [(5, .int 30), (4, .int 0), (2, .long 1), (0, .ref a0), (1, .ref a1)]) hx hb dX0_fewestLiars_43 hl (k := 0) rfl (by decide +kernel) (by decide) rfl (fun ls hl => ?_)
  refine lv_goto (tgt := 13) hx hb dX0_fewestLiars_46 (by decide) ?_
  refine lv_iload hx hb dX0_fewestLiars_13 (lv_at hl 0 rfl) ?_
  refine lv_bipush (v := 64) hx hb dX0_fewestLiars_15 (by decide) ?_
  refine lv_icmp_ge (tgt := 49) hx hb dX0_fewestLiars_17 (by decide) (fun c_ => absurd c_ (by decide +kernel)) (fun _ => ?_)
  refine lv_lload_n hx hb dX0_fewestLiars_20 rfl (lv_at hl 2 rfl) ?_
  refine lv_iload hx hb dX0_fewestLiars_21 (lv_at hl 0 rfl) ?_
  refine lv_lshr (v := 0) hx hb dX0_fewestLiars_23 (by decide +kernel) ?_
  refine lv_lconst (v := 1) hx hb dX0_fewestLiars_24 (by decide) ?_
  refine lv_land hx hb dX0_fewestLiars_25 ?_
  refine k_l 0 (by decide +kernel) ?_
  refine lv_lconst (v := 0) hx hb dX0_fewestLiars_26 (by decide) ?_
  refine W.lcmp hx hb dX0_fewestLiars_27 ?_
  refine k_i 0 (by decide +kernel) ?_
  refine lv_if_eq (tgt := 43) hx hb dX0_fewestLiars_28 (by decide) (fun _ => ?_) (fun c_ => absurd (by decide +kernel) c_)
  refine lv_iinc (v := 31) (lv' := [(5, .int 31), (4, .int 0), (2, .long 1), (0, .ref a0), (1, .ref a1)]) hx hb dX0_fewestLiars_43 hl (k := 0) rfl (by decide +kernel) (by decide) rfl (fun ls hl => ?_)
  refine lv_goto (tgt := 13) hx hb dX0_fewestLiars_46 (by decide) ?_
  refine lv_iload hx hb dX0_fewestLiars_13 (lv_at hl 0 rfl) ?_
  refine lv_bipush (v := 64) hx hb dX0_fewestLiars_15 (by decide) ?_
  refine lv_icmp_ge (tgt := 49) hx hb dX0_fewestLiars_17 (by decide) (fun c_ => absurd c_ (by decide +kernel)) (fun _ => ?_)
  refine lv_lload_n hx hb dX0_fewestLiars_20 rfl (lv_at hl 2 rfl) ?_
  refine lv_iload hx hb dX0_fewestLiars_21 (lv_at hl 0 rfl) ?_
  refine lv_lshr (v := 0) hx hb dX0_fewestLiars_23 (by decide +kernel) ?_
  refine lv_lconst (v := 1) hx hb dX0_fewestLiars_24 (by decide) ?_
  refine lv_land hx hb dX0_fewestLiars_25 ?_
  refine k_l 0 (by decide +kernel) ?_
  refine lv_lconst (v := 0) hx hb dX0_fewestLiars_26 (by decide) ?_
  refine W.lcmp hx hb dX0_fewestLiars_27 ?_
  refine k_i 0 (by decide +kernel) ?_
  refine lv_if_eq (tgt := 43) hx hb dX0_fewestLiars_28 (by decide) (fun _ => ?_) (fun c_ => absurd (by decide +kernel) c_)
  refine lv_iinc (v := 32) (lv' := [(5, .int 32), (4, .int 0), (2, .long 1), (0, .ref a0), (1, .ref a1)]) hx hb dX0_fewestLiars_43 hl (k := 0) rfl (by decide +kernel) (by decide) rfl (fun ls hl => ?_)
  refine lv_goto (tgt := 13) hx hb dX0_fewestLiars_46 (by decide) ?_
  refine lv_iload hx hb dX0_fewestLiars_13 (lv_at hl 0 rfl) ?_
  refine lv_bipush (v := 64) hx hb dX0_fewestLiars_15 (by decide) ?_
  refine lv_icmp_ge (tgt := 49) hx hb dX0_fewestLiars_17 (by decide) (fun c_ => absurd c_ (by decide +kernel)) (fun _ => ?_)
  refine lv_lload_n hx hb dX0_fewestLiars_20 rfl (lv_at hl 2 rfl) ?_
  refine lv_iload hx hb dX0_fewestLiars_21 (lv_at hl 0 rfl) ?_
  refine lv_lshr (v := 0) hx hb dX0_fewestLiars_23 (by decide +kernel) ?_
  refine lv_lconst (v := 1) hx hb dX0_fewestLiars_24 (by decide) ?_
  refine lv_land hx hb dX0_fewestLiars_25 ?_
  refine k_l 0 (by decide +kernel) ?_
  refine lv_lconst (v := 0) hx hb dX0_fewestLiars_26 (by decide) ?_
  refine W.lcmp hx hb dX0_fewestLiars_27 ?_
  refine k_i 0 (by decide +kernel) ?_
  refine lv_if_eq (tgt := 43) hx hb dX0_fewestLiars_28 (by decide) (fun _ => ?_) (fun c_ => absurd (by decide +kernel) c_)
  refine lv_iinc (v := 33) (lv' := [(5, .int 33), (4, .int 0), (2, .long 1), (0, .ref a0), (1, .ref a1)]) hx hb dX0_fewestLiars_43 hl (k := 0) rfl (by decide +kernel) (by decide) rfl (fun ls hl => ?_)
  refine lv_goto (tgt := 13) hx hb dX0_fewestLiars_46 (by decide) ?_
  refine lv_iload hx hb dX0_fewestLiars_13 (lv_at hl 0 rfl) ?_
  refine lv_bipush (v := 64) hx hb dX0_fewestLiars_15 (by decide) ?_
  refine lv_icmp_ge (tgt := 49) hx hb dX0_fewestLiars_17 (by decide) (fun c_ => absurd c_ (by decide +kernel)) (fun _ => ?_)
  refine lv_lload_n hx hb dX0_fewestLiars_20 rfl (lv_at hl 2 rfl) ?_
  refine lv_iload hx hb dX0_fewestLiars_21 (lv_at hl 0 rfl) ?_
  refine lv_lshr (v := 0) hx hb dX0_fewestLiars_23 (by decide +kernel) ?_
  refine lv_lconst (v := 1) hx hb dX0_fewestLiars_24 (by decide) ?_
  refine lv_land hx hb dX0_fewestLiars_25 ?_
  refine k_l 0 (by decide +kernel) ?_
  refine lv_lconst (v := 0) hx hb dX0_fewestLiars_26 (by decide) ?_
  refine W.lcmp hx hb dX0_fewestLiars_27 ?_
  refine k_i 0 (by decide +kernel) ?_
  refine lv_if_eq (tgt := 43) hx hb dX0_fewestLiars_28 (by decide) (fun _ => ?_) (fun c_ => absurd (by decide +kernel) c_)
  refine lv_iinc (v := 34) (lv' := [(5, .int 34), (4, .int 0), (2, .long 1), (0, .ref a0), (1, .ref a1)]) hx hb dX0_fewestLiars_43 hl (k := 0) rfl (by decide +kernel) (by decide) rfl (fun ls hl => ?_)
  refine lv_goto (tgt := 13) hx hb dX0_fewestLiars_46 (by decide) ?_
  refine lv_iload hx hb dX0_fewestLiars_13 (lv_at hl 0 rfl) ?_
  refine lv_bipush (v := 64) hx hb dX0_fewestLiars_15 (by decide) ?_
  refine lv_icmp_ge (tgt := 49) hx hb dX0_fewestLiars_17 (by decide) (fun c_ => absurd c_ (by decide +kernel)) (fun _ => ?_)
  refine lv_lload_n hx hb dX0_fewestLiars_20 rfl (lv_at hl 2 rfl) ?_
  refine lv_iload hx hb dX0_fewestLiars_21 (lv_at hl 0 rfl) ?_
  refine lv_lshr (v := 0) hx hb dX0_fewestLiars_23 (by decide +kernel) ?_
  refine lv_lconst (v := 1) hx hb dX0_fewestLiars_24 (by decide) ?_
  refine lv_land hx hb dX0_fewestLiars_25 ?_
  refine k_l 0 (by decide +kernel) ?_
  refine lv_lconst (v := 0) hx hb dX0_fewestLiars_26 (by decide) ?_
  refine W.lcmp hx hb dX0_fewestLiars_27 ?_
  refine k_i 0 (by decide +kernel) ?_
  refine lv_if_eq (tgt := 43) hx hb dX0_fewestLiars_28 (by decide) (fun _ => ?_) (fun c_ => absurd (by decide +kernel) c_)
  refine lv_iinc (v := 35) (lv' := [(5, .int 35), (4, .int 0), (2, .long 1), (0, .ref a0), (1, .ref a1)]) hx hb dX0_fewestLiars_43 hl (k := 0) rfl (by decide +kernel) (by decide) rfl (fun ls hl => ?_)
  refine lv_goto (tgt := 13) hx hb dX0_fewestLiars_46 (by decide) ?_
  refine lv_iload hx hb dX0_fewestLiars_13 (lv_at hl 0 rfl) ?_
  refine lv_bipush (v := 64) hx hb dX0_fewestLiars_15 (by decide) ?_
  refine lv_icmp_ge (tgt := 49) hx hb dX0_fewestLiars_17 (by decide) (fun c_ => absurd c_ (by decide +kernel)) (fun _ => ?_)
  refine lv_lload_n hx hb dX0_fewestLiars_20 rfl (lv_at hl 2 rfl) ?_
  refine lv_iload hx hb dX0_fewestLiars_21 (lv_at hl 0 rfl) ?_
  refine lv_lshr (v := 0) hx hb dX0_fewestLiars_23 (by decide +kernel) ?_
  refine lv_lconst (v := 1) hx hb dX0_fewestLiars_24 (by decide) ?_
  refine lv_land hx hb dX0_fewestLiars_25 ?_
  refine k_l 0 (by decide +kernel) ?_
  refine lv_lconst (v := 0) hx hb dX0_fewestLiars_26 (by decide) ?_
  refine W.lcmp hx hb dX0_fewestLiars_27 ?_
  refine k_i 0 (by decide +kernel) ?_
  refine lv_if_eq (tgt := 43) hx hb dX0_fewestLiars_28 (by decide) (fun _ => ?_) (fun c_ => absurd (by decide +kernel) c_)
  refine lv_iinc (v := 36) (lv' := [(5, .int 36), (4, .int 0), (2, .long 1), (0, .ref a0), (1, .ref a1)]) hx hb dX0_fewestLiars_43 hl (k := 0) rfl (by decide +kernel) (by decide) rfl (fun ls hl => ?_)
  refine lv_goto (tgt := 13) hx hb dX0_fewestLiars_46 (by decide) ?_
  refine lv_iload hx hb dX0_fewestLiars_13 (lv_at hl 0 rfl) ?_
  refine lv_bipush (v := 64) hx hb dX0_fewestLiars_15 (by decide) ?_
  refine lv_icmp_ge (tgt := 49) hx hb dX0_fewestLiars_17 (by decide) (fun c_ => absurd c_ (by decide +kernel)) (fun _ => ?_)
  refine lv_lload_n hx hb dX0_fewestLiars_20 rfl (lv_at hl 2 rfl) ?_
  refine lv_iload hx hb dX0_fewestLiars_21 (lv_at hl 0 rfl) ?_
  refine lv_lshr (v := 0) hx hb dX0_fewestLiars_23 (by decide +kernel) ?_
  refine lv_lconst (v := 1) hx hb dX0_fewestLiars_24 (by decide) ?_
  refine lv_land hx hb dX0_fewestLiars_25 ?_
  refine k_l 0 (by decide +kernel) ?_
  refine lv_lconst (v := 0) hx hb dX0_fewestLiars_26 (by decide) ?_
  refine W.lcmp hx hb dX0_fewestLiars_27 ?_
  refine k_i 0 (by decide +kernel) ?_
  refine lv_if_eq (tgt := 43) hx hb dX0_fewestLiars_28 (by decide) (fun _ => ?_) (fun c_ => absurd (by decide +kernel) c_)
  refine lv_iinc (v := 37) (lv' := [(5, .int 37), (4, .int 0), (2, .long 1), (0, .ref a0), (1, .ref a1)]) hx hb dX0_fewestLiars_43 hl (k := 0) rfl (by decide +kernel) (by decide) rfl (fun ls hl => ?_)
  refine lv_goto (tgt := 13) hx hb dX0_fewestLiars_46 (by decide) ?_
  refine lv_iload hx hb dX0_fewestLiars_13 (lv_at hl 0 rfl) ?_
  refine lv_bipush (v := 64) hx hb dX0_fewestLiars_15 (by decide) ?_
  refine lv_icmp_ge (tgt := 49) hx hb dX0_fewestLiars_17 (by decide) (fun c_ => absurd c_ (by decide +kernel)) (fun _ => ?_)
  refine lv_lload_n hx hb dX0_fewestLiars_20 rfl (lv_at hl 2 rfl) ?_
  refine lv_iload hx hb dX0_fewestLiars_21 (lv_at hl 0 rfl) ?_
  refine lv_lshr (v := 0) hx hb dX0_fewestLiars_23 (by decide +kernel) ?_
  refine lv_lconst (v := 1) hx hb dX0_fewestLiars_24 (by decide) ?_
  refine lv_land hx hb dX0_fewestLiars_25 ?_
  refine k_l 0 (by decide +kernel) ?_
  refine lv_lconst (v := 0) hx hb dX0_fewestLiars_26 (by decide) ?_
  refine W.lcmp hx hb dX0_fewestLiars_27 ?_
  refine k_i 0 (by decide +kernel) ?_
  refine lv_if_eq (tgt := 43) hx hb dX0_fewestLiars_28 (by decide) (fun _ => ?_) (fun c_ => absurd (by decide +kernel) c_)
  refine lv_iinc (v := 38) (lv' := [(5, .int 38), (4, .int 0), (2, .long 1), (0, .ref a0), (1, .ref a1)]) hx hb dX0_fewestLiars_43 hl (k := 0) rfl (by decide +kernel) (by decide) rfl (fun ls hl => ?_)
  refine lv_goto (tgt := 13) hx hb dX0_fewestLiars_46 (by decide) ?_
  refine lv_iload hx hb dX0_fewestLiars_13 (lv_at hl 0 rfl) ?_
  refine lv_bipush (v := 64) hx hb dX0_fewestLiars_15 (by decide) ?_
  refine lv_icmp_ge (tgt := 49) hx hb dX0_fewestLiars_17 (by decide) (fun c_ => absurd c_ (by decide +kernel)) (fun _ => ?_)
  refine lv_lload_n hx hb dX0_fewestLiars_20 rfl (lv_at hl 2 rfl) ?_
  refine lv_iload hx hb dX0_fewestLiars_21 (lv_at hl 0 rfl) ?_
  refine lv_lshr (v := 0) hx hb dX0_fewestLiars_23 (by decide +kernel) ?_
  refine lv_lconst (v := 1) hx hb dX0_fewestLiars_24 (by decide) ?_
  refine lv_land hx hb dX0_fewestLiars_25 ?_
  refine k_l 0 (by decide +kernel) ?_
  refine lv_lconst (v := 0) hx hb dX0_fewestLiars_26 (by decide) ?_
  refine W.lcmp hx hb dX0_fewestLiars_27 ?_
  refine k_i 0 (by decide +kernel) ?_
  refine lv_if_eq (tgt := 43) hx hb dX0_fewestLiars_28 (by decide) (fun _ => ?_) (fun c_ => absurd (by decide +kernel) c_)
  refine lv_iinc (v := 39) (lv' := [(5, .int 39), (4, .int 0), (2, .long 1), (0, .ref a0), (1, .ref a1)]) hx hb dX0_fewestLiars_43 hl (k := 0) rfl (by decide +kernel) (by decide) rfl (fun ls hl => ?_)
  refine lv_goto (tgt := 13) hx hb dX0_fewestLiars_46 (by decide) ?_
  refine lv_iload hx hb dX0_fewestLiars_13 (lv_at hl 0 rfl) ?_
  refine lv_bipush (v := 64) hx hb dX0_fewestLiars_15 (by decide) ?_
  refine lv_icmp_ge (tgt := 49) hx hb dX0_fewestLiars_17 (by decide) (fun c_ => absurd c_ (by decide +kernel)) (fun _ => ?_)
  refine lv_lload_n hx hb dX0_fewestLiars_20 rfl (lv_at hl 2 rfl) ?_
  refine lv_iload hx hb dX0_fewestLiars_21 (lv_at hl 0 rfl) ?_
  refine lv_lshr (v := 0) hx hb dX0_fewestLiars_23 (by decide +kernel) ?_
  refine lv_lconst (v := 1) hx hb dX0_fewestLiars_24 (by decide) ?_
  refine lv_land hx hb dX0_fewestLiars_25 ?_
  refine k_l 0 (by decide +kernel) ?_
  refine lv_lconst (v := 0) hx hb dX0_fewestLiars_26 (by decide) ?_
  refine W.lcmp hx hb dX0_fewestLiars_27 ?_
  refine k_i 0 (by decide +kernel) ?_
  refine lv_if_eq (tgt := 43) hx hb dX0_fewestLiars_28 (by decide) (fun _ => ?_) (fun c_ => absurd (by decide +kernel) c_)
  refine lv_iinc (v := 40) (lv' := [(5, .int 40), (4, .int 0), (2, .long 1), (0, .ref a0), (1, .ref a1)]) hx hb dX0_fewestLiars_43 hl (k := 0) rfl (by decide +kernel) (by decide) rfl (fun ls hl => ?_)
  refine lv_goto (tgt := 13) hx hb dX0_fewestLiars_46 (by decide) ?_
  refine lv_iload hx hb dX0_fewestLiars_13 (lv_at hl 0 rfl) ?_
  refine lv_bipush (v := 64) hx hb dX0_fewestLiars_15 (by decide) ?_
  refine lv_icmp_ge (tgt := 49) hx hb dX0_fewestLiars_17 (by decide) (fun c_ => absurd c_ (by decide +kernel)) (fun _ => ?_)
  refine lv_lload_n hx hb dX0_fewestLiars_20 rfl (lv_at hl 2 rfl) ?_
  refine lv_iload hx hb dX0_fewestLiars_21 (lv_at hl 0 rfl) ?_
  refine lv_lshr (v := 0) hx hb dX0_fewestLiars_23 (by decide +kernel) ?_
  refine lv_lconst (v := 1) hx hb dX0_fewestLiars_24 (by decide) ?_
  refine lv_land hx hb dX0_fewestLiars_25 ?_
  refine k_l 0 (by decide +kernel) ?_
  refine lv_lconst (v := 0) hx hb dX0_fewestLiars_26 (by decide) ?_
  refine W.lcmp hx hb dX0_fewestLiars_27 ?_
  refine k_i 0 (by decide +kernel) ?_
  refine lv_if_eq (tgt := 43) hx hb dX0_fewestLiars_28 (by decide) (fun _ => ?_) (fun c_ => absurd (by decide +kernel) c_)
  refine lv_iinc (v := 41) (lv' := [(5, .int 41), (4, .int 0), (2, .long 1), (0, .ref a0), (1, .ref a1)]) hx hb dX0_fewestLiars_43 hl (k := 0) rfl (by decide +kernel) (by decide) rfl (fun ls hl => ?_)
  refine lv_goto (tgt := 13) hx hb dX0_fewestLiars_46 (by decide) ?_
  refine lv_iload hx hb dX0_fewestLiars_13 (lv_at hl 0 rfl) ?_
  refine lv_bipush (v := 64) hx hb dX0_fewestLiars_15 (by decide) ?_
  refine lv_icmp_ge (tgt := 49) hx hb dX0_fewestLiars_17 (by decide) (fun c_ => absurd c_ (by decide +kernel)) (fun _ => ?_)
  refine lv_lload_n hx hb dX0_fewestLiars_20 rfl (lv_at hl 2 rfl) ?_
  refine lv_iload hx hb dX0_fewestLiars_21 (lv_at hl 0 rfl) ?_
  refine lv_lshr (v := 0) hx hb dX0_fewestLiars_23 (by decide +kernel) ?_
  refine lv_lconst (v := 1) hx hb dX0_fewestLiars_24 (by decide) ?_
  refine lv_land hx hb dX0_fewestLiars_25 ?_
  refine k_l 0 (by decide +kernel) ?_
  refine lv_lconst (v := 0) hx hb dX0_fewestLiars_26 (by decide) ?_
  refine W.lcmp hx hb dX0_fewestLiars_27 ?_
  refine k_i 0 (by decide +kernel) ?_
  refine lv_if_eq (tgt := 43) hx hb dX0_fewestLiars_28 (by decide) (fun _ => ?_) (fun c_ => absurd (by decide +kernel) c_)
  refine lv_iinc (v := 42) (lv' := [(5, .int 42), (4, .int 0), (2, .long 1), (0, .ref a0), (1, .ref a1)]) hx hb dX0_fewestLiars_43 hl (k := 0) rfl (by decide +kernel) (by decide) rfl (fun ls hl => ?_)
  refine lv_goto (tgt := 13) hx hb dX0_fewestLiars_46 (by decide) ?_
  refine lv_iload hx hb dX0_fewestLiars_13 (lv_at hl 0 rfl) ?_
  refine lv_bipush (v := 64) hx hb dX0_fewestLiars_15 (by decide) ?_
  refine lv_icmp_ge (tgt := 49) hx hb dX0_fewestLiars_17 (by decide) (fun c_ => absurd c_ (by decide +kernel)) (fun _ => ?_)
  refine lv_lload_n hx hb dX0_fewestLiars_20 rfl (lv_at hl 2 rfl) ?_
  refine lv_iload hx hb dX0_fewestLiars_21 (lv_at hl 0 rfl) ?_
  refine lv_lshr (v := 0) hx hb dX0_fewestLiars_23 (by decide +kernel) ?_
  refine lv_lconst (v := 1) hx hb dX0_fewestLiars_24 (by decide) ?_
  refine lv_land hx hb dX0_fewestLiars_25 ?_
  refine k_l 0 (by decide +kernel) ?_
  refine lv_lconst (v := 0) hx hb dX0_fewestLiars_26 (by decide) ?_
  refine W.lcmp hx hb dX0_fewestLiars_27 ?_
  refine k_i 0 (by decide +kernel) ?_
  refine lv_if_eq (tgt := 43) hx hb dX0_fewestLiars_28 (by decide) (fun _ => ?_) (fun c_ => absurd (by decide +kernel) c_)
  refine lv_iinc (v := 43) (lv' := [(5, .int 43), (4, .int 0), (2, .long 1), (0, .ref a0), (1, .ref a1)]) hx hb dX0_fewestLiars_43 hl (k := 0) rfl (by decide +kernel) (by decide) rfl (fun ls hl => ?_)
  refine lv_goto (tgt := 13) hx hb dX0_fewestLiars_46 (by decide) ?_
  refine lv_iload hx hb dX0_fewestLiars_13 (lv_at hl 0 rfl) ?_
  refine lv_bipush (v := 64) hx hb dX0_fewestLiars_15 (by decide) ?_
  refine lv_icmp_ge (tgt := 49) hx hb dX0_fewestLiars_17 (by decide) (fun c_ => absurd c_ (by decide +kernel)) (fun _ => ?_)
  refine lv_lload_n hx hb dX0_fewestLiars_20 rfl (lv_at hl 2 rfl) ?_
  refine lv_iload hx hb dX0_fewestLiars_21 (lv_at hl 0 rfl) ?_
  refine lv_lshr (v := 0) hx hb dX0_fewestLiars_23 (by decide +kernel) ?_
  refine lv_lconst (v := 1) hx hb dX0_fewestLiars_24 (by decide) ?_
  refine lv_land hx hb dX0_fewestLiars_25 ?_
  refine k_l 0 (by decide +kernel) ?_
  refine lv_lconst (v := 0) hx hb dX0_fewestLiars_26 (by decide) ?_
  refine W.lcmp hx hb dX0_fewestLiars_27 ?_
  refine k_i 0 (by decide +kernel) ?_
  refine lv_if_eq (tgt := 43) hx hb dX0_fewestLiars_28 (by decide) (fun _ => ?_) (fun c_ => absurd (by decide +kernel) c_)
  refine lv_iinc (v := 44) (lv' := [(5, .int 44), (4, .int 0), (2, .long 1), (0, .ref a0), (1, .ref a1)]) hx hb dX0_fewestLiars_43 hl (k := 0) rfl (by decide +kernel) (by decide) rfl (fun ls hl => ?_)
  refine lv_goto (tgt := 13) hx hb dX0_fewestLiars_46 (by decide) ?_
  refine lv_iload hx hb dX0_fewestLiars_13 (lv_at hl 0 rfl) ?_
  refine lv_bipush (v := 64) hx hb dX0_fewestLiars_15 (by decide) ?_
  refine lv_icmp_ge (tgt := 49) hx hb dX0_fewestLiars_17 (by decide) (fun c_ => absurd c_ (by decide +kernel)) (fun _ => ?_)
  refine lv_lload_n hx hb dX0_fewestLiars_20 rfl (lv_at hl 2 rfl) ?_
  refine lv_iload hx hb dX0_fewestLiars_21 (lv_at hl 0 rfl) ?_
  refine lv_lshr (v := 0) hx hb dX0_fewestLiars_23 (by decide +kernel) ?_
  refine lv_lconst (v := 1) hx hb dX0_fewestLiars_24 (by decide) ?_
  refine lv_land hx hb dX0_fewestLiars_25 ?_
  refine k_l 0 (by decide +kernel) ?_
  refine lv_lconst (v := 0) hx hb dX0_fewestLiars_26 (by decide) ?_
  refine W.lcmp hx hb dX0_fewestLiars_27 ?_
  refine k_i 0 (by decide +kernel) ?_
  refine lv_if_eq (tgt := 43) hx hb dX0_fewestLiars_28 (by decide) (fun _ => ?_) (fun c_ => absurd (by decide +kernel) c_)
  refine lv_iinc (v := 45) (lv' := [(5, .int 45), (4, .int 0), (2, .long 1), (0, .ref a0), (1, .ref a1)]) hx hb dX0_fewestLiars_43 hl (k := 0) rfl (by decide +kernel) (by decide) rfl (fun ls hl => ?_)
  refine lv_goto (tgt := 13) hx hb dX0_fewestLiars_46 (by decide) ?_
  refine lv_iload hx hb dX0_fewestLiars_13 (lv_at hl 0 rfl) ?_
  refine lv_bipush (v := 64) hx hb dX0_fewestLiars_15 (by decide) ?_
  refine lv_icmp_ge (tgt := 49) hx hb dX0_fewestLiars_17 (by decide) (fun c_ => absurd c_ (by decide +kernel)) (fun _ => ?_)
  refine lv_lload_n hx hb dX0_fewestLiars_20 rfl (lv_at hl 2 rfl) ?_
  refine lv_iload hx hb dX0_fewestLiars_21 (lv_at hl 0 rfl) ?_
  refine lv_lshr (v := 0) hx hb dX0_fewestLiars_23 (by decide +kernel) ?_
  refine lv_lconst (v := 1) hx hb dX0_fewestLiars_24 (by decide) ?_
  refine lv_land hx hb dX0_fewestLiars_25 ?_
  refine k_l 0 (by decide +kernel) ?_
  refine lv_lconst (v := 0) hx hb dX0_fewestLiars_26 (by decide) ?_
  refine W.lcmp hx hb dX0_fewestLiars_27 ?_
  refine k_i 0 (by decide +kernel) ?_
  refine lv_if_eq (tgt := 43) hx hb dX0_fewestLiars_28 (by decide) (fun _ => ?_) (fun c_ => absurd (by decide +kernel) c_)
  refine lv_iinc (v := 46) (lv' := [(5, .int 46), (4, .int 0), (2, .long 1), (0, .ref a0), (1, .ref a1)]) hx hb dX0_fewestLiars_43 hl (k := 0) rfl (by decide +kernel) (by decide) rfl (fun ls hl => ?_)
  refine lv_goto (tgt := 13) hx hb dX0_fewestLiars_46 (by decide) ?_
  refine lv_iload hx hb dX0_fewestLiars_13 (lv_at hl 0 rfl) ?_
  refine lv_bipush (v := 64) hx hb dX0_fewestLiars_15 (by decide) ?_
  refine lv_icmp_ge (tgt := 49) hx hb dX0_fewestLiars_17 (by decide) (fun c_ => absurd c_ (by decide +kernel)) (fun _ => ?_)
  refine lv_lload_n hx hb dX0_fewestLiars_20 rfl (lv_at hl 2 rfl) ?_
  refine lv_iload hx hb dX0_fewestLiars_21 (lv_at hl 0 rfl) ?_
  refine lv_lshr (v := 0) hx hb dX0_fewestLiars_23 (by decide +kernel) ?_
  refine lv_lconst (v := 1) hx hb dX0_fewestLiars_24 (by decide) ?_
  refine lv_land hx hb dX0_fewestLiars_25 ?_
  refine k_l 0 (by decide +kernel) ?_
  refine lv_lconst (v := 0) hx hb dX0_fewestLiars_26 (by decide) ?_
  refine W.lcmp hx hb dX0_fewestLiars_27 ?_
  refine k_i 0 (by decide +kernel) ?_
  refine lv_if_eq (tgt := 43) hx hb dX0_fewestLiars_28 (by decide) (fun _ => ?_) (fun c_ => absurd (by decide +kernel) c_)
  refine lv_iinc (v := 47) (lv' := [(5, .int 47), (4, .int 0), (2, .long 1), (0, .ref a0), (1, .ref a1)]) hx hb dX0_fewestLiars_43 hl (k := 0) rfl (by decide +kernel) (by decide) rfl (fun ls hl => ?_)
  refine lv_goto (tgt := 13) hx hb dX0_fewestLiars_46 (by decide) ?_
  refine lv_iload hx hb dX0_fewestLiars_13 (lv_at hl 0 rfl) ?_
  refine lv_bipush (v := 64) hx hb dX0_fewestLiars_15 (by decide) ?_
  refine lv_icmp_ge (tgt := 49) hx hb dX0_fewestLiars_17 (by decide) (fun c_ => absurd c_ (by decide +kernel)) (fun _ => ?_)
  refine lv_lload_n hx hb dX0_fewestLiars_20 rfl (lv_at hl 2 rfl) ?_
  refine lv_iload hx hb dX0_fewestLiars_21 (lv_at hl 0 rfl) ?_
  refine lv_lshr (v := 0) hx hb dX0_fewestLiars_23 (by decide +kernel) ?_
  refine lv_lconst (v := 1) hx hb dX0_fewestLiars_24 (by decide) ?_
  refine lv_land hx hb dX0_fewestLiars_25 ?_
  refine k_l 0 (by decide +kernel) ?_
  refine lv_lconst (v := 0) hx hb dX0_fewestLiars_26 (by decide) ?_
  refine W.lcmp hx hb dX0_fewestLiars_27 ?_
  refine k_i 0 (by decide +kernel) ?_
  refine lv_if_eq (tgt := 43) hx hb dX0_fewestLiars_28 (by decide) (fun _ => ?_) (fun c_ => absurd (by decide +kernel) c_)
  refine lv_iinc (v := 48) (lv' := [(5, .int 48), (4, .int 0), (2, .long 1), (0, .ref a0), (1, .ref a1)]) hx hb dX0_fewestLiars_43 hl (k := 0) rfl (by decide +kernel) (by decide) rfl (fun ls hl => ?_)
  refine lv_goto (tgt := 13) hx hb dX0_fewestLiars_46 (by decide) ?_
  refine lv_iload hx hb dX0_fewestLiars_13 (lv_at hl 0 rfl) ?_
  refine lv_bipush (v := 64) hx hb dX0_fewestLiars_15 (by decide) ?_
  refine lv_icmp_ge (tgt := 49) hx hb dX0_fewestLiars_17 (by decide) (fun c_ => absurd c_ (by decide +kernel)) (fun _ => ?_)
  refine lv_lload_n hx hb dX0_fewestLiars_20 rfl (lv_at hl 2 rfl) ?_
  refine lv_iload hx hb dX0_fewestLiars_21 (lv_at hl 0 rfl) ?_
  refine lv_lshr (v := 0) hx hb dX0_fewestLiars_23 (by decide +kernel) ?_
  refine lv_lconst (v := 1) hx hb dX0_fewestLiars_24 (by decide) ?_
  refine lv_land hx hb dX0_fewestLiars_25 ?_
  refine k_l 0 (by decide +kernel) ?_
  refine lv_lconst (v := 0) hx hb dX0_fewestLiars_26 (by decide) ?_
  refine W.lcmp hx hb dX0_fewestLiars_27 ?_
  refine k_i 0 (by decide +kernel) ?_
  refine lv_if_eq (tgt := 43) hx hb dX0_fewestLiars_28 (by decide) (fun _ => ?_) (fun c_ => absurd (by decide +kernel) c_)
  refine lv_iinc (v := 49) (lv' := [(5, .int 49), (4, .int 0), (2, .long 1), (0, .ref a0), (1, .ref a1)]) hx hb dX0_fewestLiars_43 hl (k := 0) rfl (by decide +kernel) (by decide) rfl (fun ls hl => ?_)
  refine lv_goto (tgt := 13) hx hb dX0_fewestLiars_46 (by decide) ?_
  refine lv_iload hx hb dX0_fewestLiars_13 (lv_at hl 0 rfl) ?_
  refine lv_bipush (v := 64) hx hb dX0_fewestLiars_15 (by decide) ?_
  refine lv_icmp_ge (tgt := 49) hx hb dX0_fewestLiars_17 (by decide) (fun c_ => absurd c_ (by decide +kernel)) (fun _ => ?_)
  refine lv_lload_n hx hb dX0_fewestLiars_20 rfl (lv_at hl 2 rfl) ?_
  refine lv_iload hx hb dX0_fewestLiars_21 (lv_at hl 0 rfl) ?_
  refine lv_lshr (v := 0) hx hb dX0_fewestLiars_23 (by decide +kernel) ?_
  refine lv_lconst (v := 1) hx hb dX0_fewestLiars_24 (by decide) ?_
  refine lv_land hx hb dX0_fewestLiars_25 ?_
  refine k_l 0 (by decide +kernel) ?_
  refine lv_lconst (v := 0) hx hb dX0_fewestLiars_26 (by decide) ?_
  refine W.lcmp hx hb dX0_fewestLiars_27 ?_
  refine k_i 0 (by decide +kernel) ?_
  refine lv_if_eq (tgt := 43) hx hb dX0_fewestLiars_28 (by decide) (fun _ => ?_) (fun c_ => absurd (by decide +kernel) c_)
  refine lv_iinc (v := 50) (lv' := [(5, .int 50), (4, .int 0), (2, .long 1), (0, .ref a0), (1, .ref a1)]) hx hb dX0_fewestLiars_43 hl (k := 0) rfl (by decide +kernel) (by decide) rfl (fun ls hl => ?_)
  refine lv_goto (tgt := 13) hx hb dX0_fewestLiars_46 (by decide) ?_
  refine lv_iload hx hb dX0_fewestLiars_13 (lv_at hl 0 rfl) ?_
  refine lv_bipush (v := 64) hx hb dX0_fewestLiars_15 (by decide) ?_
  refine lv_icmp_ge (tgt := 49) hx hb dX0_fewestLiars_17 (by decide) (fun c_ => absurd c_ (by decide +kernel)) (fun _ => ?_)
  refine lv_lload_n hx hb dX0_fewestLiars_20 rfl (lv_at hl 2 rfl) ?_
  refine lv_iload hx hb dX0_fewestLiars_21 (lv_at hl 0 rfl) ?_
  refine lv_lshr (v := 0) hx hb dX0_fewestLiars_23 (by decide +kernel) ?_
  refine lv_lconst (v := 1) hx hb dX0_fewestLiars_24 (by decide) ?_
  refine lv_land hx hb dX0_fewestLiars_25 ?_
  refine k_l 0 (by decide +kernel) ?_
  refine lv_lconst (v := 0) hx hb dX0_fewestLiars_26 (by decide) ?_
  refine W.lcmp hx hb dX0_fewestLiars_27 ?_
  refine k_i 0 (by decide +kernel) ?_
  refine lv_if_eq (tgt := 43) hx hb dX0_fewestLiars_28 (by decide) (fun _ => ?_) (fun c_ => absurd (by decide +kernel) c_)
  refine lv_iinc (v := 51) (lv' := [(5, .int 51), (4, .int 0), (2, .long 1), (0, .ref a0), (1, .ref a1)]) hx hb dX0_fewestLiars_43 hl (k := 0) rfl (by decide +kernel) (by decide) rfl (fun ls hl => ?_)
  refine lv_goto (tgt := 13) hx hb dX0_fewestLiars_46 (by decide) ?_
  refine lv_iload hx hb dX0_fewestLiars_13 (lv_at hl 0 rfl) ?_
  refine lv_bipush (v := 64) hx hb dX0_fewestLiars_15 (by decide) ?_
  refine lv_icmp_ge (tgt := 49) hx hb dX0_fewestLiars_17 (by decide) (fun c_ => absurd c_ (by decide +kernel)) (fun _ => ?_)
  refine lv_lload_n hx hb dX0_fewestLiars_20 rfl (lv_at hl 2 rfl) ?_
  refine lv_iload hx hb dX0_fewestLiars_21 (lv_at hl 0 rfl) ?_
  refine lv_lshr (v := 0) hx hb dX0_fewestLiars_23 (by decide +kernel) ?_
  refine lv_lconst (v := 1) hx hb dX0_fewestLiars_24 (by decide) ?_
  refine lv_land hx hb dX0_fewestLiars_25 ?_
  refine k_l 0 (by decide +kernel) ?_
  refine lv_lconst (v := 0) hx hb dX0_fewestLiars_26 (by decide) ?_
  refine W.lcmp hx hb dX0_fewestLiars_27 ?_
  refine k_i 0 (by decide +kernel) ?_
  refine lv_if_eq (tgt := 43) hx hb dX0_fewestLiars_28 (by decide) (fun _ => ?_) (fun c_ => absurd (by decide +kernel) c_)
  refine lv_iinc (v := 52) (lv' := [(5, .int 52), (4, .int 0), (2, .long 1), (0, .ref a0), (1, .ref a1)]) hx hb dX0_fewestLiars_43 hl (k := 0) rfl (by decide +kernel) (by decide) rfl (fun ls hl => ?_)
  refine lv_goto (tgt := 13) hx hb dX0_fewestLiars_46 (by decide) ?_
  refine lv_iload hx hb dX0_fewestLiars_13 (lv_at hl 0 rfl) ?_
  refine lv_bipush (v := 64) hx hb dX0_fewestLiars_15 (by decide) ?_
  refine lv_icmp_ge (tgt := 49) hx hb dX0_fewestLiars_17 (by decide) (fun c_ => absurd c_ (by decide +kernel)) (fun _ => ?_)
  refine lv_lload_n hx hb dX0_fewestLiars_20 rfl (lv_at hl 2 rfl) ?_
  refine lv_iload hx hb dX0_fewestLiars_21 (lv_at hl 0 rfl) ?_
  refine lv_lshr (v := 0) hx hb dX0_fewestLiars_23 (by decide +kernel) ?_
  refine lv_lconst (v := 1) hx hb dX0_fewestLiars_24 (by decide) ?_
  refine lv_land hx hb dX0_fewestLiars_25 ?_
  refine k_l 0 (by decide +kernel) ?_
  refine lv_lconst (v := 0) hx hb dX0_fewestLiars_26 (by decide) ?_
  refine W.lcmp hx hb dX0_fewestLiars_27 ?_
  refine k_i 0 (by decide +kernel) ?_
  refine lv_if_eq (tgt := 43) hx hb dX0_fewestLiars_28 (by decide) (fun _ => ?_) (fun c_ => absurd (by decide +kernel) c_)
  refine lv_iinc (v := 53) (lv' := [(5, .int 53), (4, .int 0), (2, .long 1), (0, .ref a0), (1, .ref a1)]) hx hb dX0_fewestLiars_43 hl (k := 0) rfl (by decide +kernel) (by decide) rfl (fun ls hl => ?_)
  refine lv_goto (tgt := 13) hx hb dX0_fewestLiars_46 (by decide) ?_
  refine lv_iload hx hb dX0_fewestLiars_13 (lv_at hl 0 rfl) ?_
  refine lv_bipush (v := 64) hx hb dX0_fewestLiars_15 (by decide) ?_
  refine lv_icmp_ge (tgt := 49) hx hb dX0_fewestLiars_17 (by decide) (fun c_ => absurd c_ (by decide +kernel)) (fun _ => ?_)
  refine lv_lload_n hx hb dX0_fewestLiars_20 rfl (lv_at hl 2 rfl) ?_
  refine lv_iload hx hb dX0_fewestLiars_21 (lv_at hl 0 rfl) ?_
  refine lv_lshr (v := 0) hx hb dX0_fewestLiars_23 (by decide +kernel) ?_
  refine lv_lconst (v := 1) hx hb dX0_fewestLiars_24 (by decide) ?_
  refine lv_land hx hb dX0_fewestLiars_25 ?_
  refine k_l 0 (by decide +kernel) ?_
  refine lv_lconst (v := 0) hx hb dX0_fewestLiars_26 (by decide) ?_
  refine W.lcmp hx hb dX0_fewestLiars_27 ?_
  refine k_i 0 (by decide +kernel) ?_
  refine lv_if_eq (tgt := 43) hx hb dX0_fewestLiars_28 (by decide) (fun _ => ?_) (fun c_ => absurd (by decide +kernel) c_)
  refine lv_iinc (v := 54) (lv' := [(5, .int 54), (4, .int 0), (2, .long 1), (0, .ref a0), (1, .ref a1)]) hx hb dX0_fewestLiars_43 hl (k := 0) rfl (by decide +kernel) (by decide) rfl (fun ls hl => ?_)
  refine lv_goto (tgt := 13) hx hb dX0_fewestLiars_46 (by decide) ?_
  refine lv_iload hx hb dX0_fewestLiars_13 (lv_at hl 0 rfl) ?_
  refine lv_bipush (v := 64) hx hb dX0_fewestLiars_15 (by decide) ?_
  refine lv_icmp_ge (tgt := 49) hx hb dX0_fewestLiars_17 (by decide) (fun c_ => absurd c_ (by decide +kernel)) (fun _ => ?_)
  refine lv_lload_n hx hb dX0_fewestLiars_20 rfl (lv_at hl 2 rfl) ?_
  refine lv_iload hx hb dX0_fewestLiars_21 (lv_at hl 0 rfl) ?_
  refine lv_lshr (v := 0) hx hb dX0_fewestLiars_23 (by decide +kernel) ?_
  refine lv_lconst (v := 1) hx hb dX0_fewestLiars_24 (by decide) ?_
  refine lv_land hx hb dX0_fewestLiars_25 ?_
  refine k_l 0 (by decide +kernel) ?_
  refine lv_lconst (v := 0) hx hb dX0_fewestLiars_26 (by decide) ?_
  refine W.lcmp hx hb dX0_fewestLiars_27 ?_
  refine k_i 0 (by decide +kernel) ?_
  refine lv_if_eq (tgt := 43) hx hb dX0_fewestLiars_28 (by decide) (fun _ => ?_) (fun c_ => absurd (by decide +kernel) c_)
  refine lv_iinc (v := 55) (lv' := [(5, .int 55), (4, .int 0), (2, .long 1), (0, .ref a0), (1, .ref a1)]) hx hb dX0_fewestLiars_43 hl (k := 0) rfl (by decide +kernel) (by decide) rfl (fun ls hl => ?_)
  refine lv_goto (tgt := 13) hx hb dX0_fewestLiars_46 (by decide) ?_
  refine lv_iload hx hb dX0_fewestLiars_13 (lv_at hl 0 rfl) ?_
  refine lv_bipush (v := 64) hx hb dX0_fewestLiars_15 (by decide) ?_
  refine lv_icmp_ge (tgt := 49) hx hb dX0_fewestLiars_17 (by decide) (fun c_ => absurd c_ (by decide +kernel)) (fun _ => ?_)
  refine lv_lload_n hx hb dX0_fewestLiars_20 rfl (lv_at hl 2 rfl) ?_
  refine lv_iload hx hb dX0_fewestLiars_21 (lv_at hl 0 rfl) ?_
  refine lv_lshr (v := 0) hx hb dX0_fewestLiars_23 (by decide +kernel) ?_
  refine lv_lconst (v := 1) hx hb dX0_fewestLiars_24 (by decide) ?_
  refine lv_land hx hb dX0_fewestLiars_25 ?_
  refine k_l 0 (by decide +kernel) ?_
  refine lv_lconst (v := 0) hx hb dX0_fewestLiars_26 (by decide) ?_
  refine W.lcmp hx hb dX0_fewestLiars_27 ?_
  refine k_i 0 (by decide +kernel) ?_
  refine lv_if_eq (tgt := 43) hx hb dX0_fewestLiars_28 (by decide) (fun _ => ?_) (fun c_ => absurd (by decide +kernel) c_)
  refine lv_iinc (v := 56) (lv' := [(5, .int 56), (4, .int 0), (2, .long 1), (0, .ref a0), (1, .ref a1)]) hx hb dX0_fewestLiars_43 hl (k := 0) rfl (by decide +kernel) (by decide) rfl (fun ls hl => ?_)
  refine lv_goto (tgt := 13) hx hb dX0_fewestLiars_46 (by decide) ?_
  refine lv_iload hx hb dX0_fewestLiars_13 (lv_at hl 0 rfl) ?_
  refine lv_bipush (v := 64) hx hb dX0_fewestLiars_15 (by decide) ?_
  refine lv_icmp_ge (tgt := 49) hx hb dX0_fewestLiars_17 (by decide) (fun c_ => absurd c_ (by decide +kernel)) (fun _ => ?_)
  refine lv_lload_n hx hb dX0_fewestLiars_20 rfl (lv_at hl 2 rfl) ?_
  refine lv_iload hx hb dX0_fewestLiars_21 (lv_at hl 0 rfl) ?_
  refine lv_lshr (v := 0) hx hb dX0_fewestLiars_23 (by decide +kernel) ?_
  refine lv_lconst (v := 1) hx hb dX0_fewestLiars_24 (by decide) ?_
  refine lv_land hx hb dX0_fewestLiars_25 ?_
  refine k_l 0 (by decide +kernel) ?_
  refine lv_lconst (v := 0) hx hb dX0_fewestLiars_26 (by decide) ?_
  refine W.lcmp hx hb dX0_fewestLiars_27 ?_
  refine k_i 0 (by decide +kernel) ?_
  refine lv_if_eq (tgt := 43) hx hb dX0_fewestLiars_28 (by decide) (fun _ => ?_) (fun c_ => absurd (by decide +kernel) c_)
  refine lv_iinc (v := 57) (lv' := [(5, .int 57), (4, .int 0), (2, .long 1), (0, .ref a0), (1, .ref a1)]) hx hb dX0_fewestLiars_43 hl (k := 0) rfl (by decide +kernel) (by decide) rfl (fun ls hl => ?_)
  refine lv_goto (tgt := 13) hx hb dX0_fewestLiars_46 (by decide) ?_
  refine lv_iload hx hb dX0_fewestLiars_13 (lv_at hl 0 rfl) ?_
  refine lv_bipush (v := 64) hx hb dX0_fewestLiars_15 (by decide) ?_
  refine lv_icmp_ge (tgt := 49) hx hb dX0_fewestLiars_17 (by decide) (fun c_ => absurd c_ (by decide +kernel)) (fun _ => ?_)
  refine lv_lload_n hx hb dX0_fewestLiars_20 rfl (lv_at hl 2 rfl) ?_
  refine lv_iload hx hb dX0_fewestLiars_21 (lv_at hl 0 rfl) ?_
  refine lv_lshr (v := 0) hx hb dX0_fewestLiars_23 (by decide +kernel) ?_
  refine lv_lconst (v := 1) hx hb dX0_fewestLiars_24 (by decide) ?_
  refine lv_land hx hb dX0_fewestLiars_25 ?_
  refine k_l 0 (by decide +kernel) ?_
  refine lv_lconst (v := 0) hx hb dX0_fewestLiars_26 (by decide) ?_
  refine W.lcmp hx hb dX0_fewestLiars_27 ?_
  refine k_i 0 (by decide +kernel) ?_
  refine lv_if_eq (tgt := 43) hx hb dX0_fewestLiars_28 (by decide) (fun _ => ?_) (fun c_ => absurd (by decide +kernel) c_)
  refine lv_iinc (v := 58) (lv' := [(5, .int 58), (4, .int 0), (2, .long 1), (0, .ref a0), (1, .ref a1)]) hx hb dX0_fewestLiars_43 hl (k := 0) rfl (by decide +kernel) (by decide) rfl (fun ls hl => ?_)
  refine lv_goto (tgt := 13) hx hb dX0_fewestLiars_46 (by decide) ?_
  refine lv_iload hx hb dX0_fewestLiars_13 (lv_at hl 0 rfl) ?_
  refine lv_bipush (v := 64) hx hb dX0_fewestLiars_15 (by decide) ?_
  refine lv_icmp_ge (tgt := 49) hx hb dX0_fewestLiars_17 (by decide) (fun c_ => absurd c_ (by decide +kernel)) (fun _ => ?_)
  refine lv_lload_n hx hb dX0_fewestLiars_20 rfl (lv_at hl 2 rfl) ?_
  refine lv_iload hx hb dX0_fewestLiars_21 (lv_at hl 0 rfl) ?_
  refine lv_lshr (v := 0) hx hb dX0_fewestLiars_23 (by decide +kernel) ?_
  refine lv_lconst (v := 1) hx hb dX0_fewestLiars_24 (by decide) ?_
  refine lv_land hx hb dX0_fewestLiars_25 ?_
  refine k_l 0 (by decide +kernel) ?_
  refine lv_lconst (v := 0) hx hb dX0_fewestLiars_26 (by decide) ?_
  refine W.lcmp hx hb dX0_fewestLiars_27 ?_
  refine k_i 0 (by decide +kernel) ?_
  refine lv_if_eq (tgt := 43) hx hb dX0_fewestLiars_28 (by decide) (fun _ => ?_) (fun c_ => absurd (by decide +kernel) c_)
  refine lv_iinc (v := 59) (lv' := [(5, .int 59), (4, .int 0), (2, .long 1), (0, .ref a0), (1, .ref a1)]) hx hb dX0_fewestLiars_43 hl (k := 0) rfl (by decide +kernel) (by decide) rfl (fun ls hl => ?_)
  refine lv_goto (tgt := 13) hx hb dX0_fewestLiars_46 (by decide) ?_
  refine lv_iload hx hb dX0_fewestLiars_13 (lv_at hl 0 rfl) ?_
  refine lv_bipush (v := 64) hx hb dX0_fewestLiars_15 (by decide) ?_
  refine lv_icmp_ge (tgt := 49) hx hb dX0_fewestLiars_17 (by decide) (fun c_ => absurd c_ (by decide +kernel)) (fun _ => ?_)
  refine lv_lload_n hx hb dX0_fewestLiars_20 rfl (lv_at hl 2 rfl) ?_
  refine lv_iload hx hb dX0_fewestLiars_21 (lv_at hl 0 rfl) ?_
  refine lv_lshr (v := 0) hx hb dX0_fewestLiars_23 (by decide +kernel) ?_
  refine lv_lconst (v := 1) hx hb dX0_fewestLiars_24 (by decide) ?_
  refine lv_land hx hb dX0_fewestLiars_25 ?_
  refine k_l 0 (by decide +kernel) ?_
  refine lv_lconst (v := 0) hx hb dX0_fewestLiars_26 (by decide) ?_
  refine W.lcmp hx hb dX0_fewestLiars_27 ?_
  refine k_i 0 (by decide +kernel) ?_
  refine lv_if_eq (tgt := 43) hx hb dX0_fewestLiars_28 (by decide) (fun _ => ?_) (fun c_ => absurd (by decide +kernel) c_)
  refine lv_iinc (v := 60) (lv' := [(5, .int 60), (4, .int 0), (2, .long 1), (0, .ref a0), (1, .ref a1)]) hx hb dX0_fewestLiars_43 hl (k := 0) rfl (by decide +kernel) (by decide) rfl (fun ls hl => ?_)
  refine lv_goto (tgt := 13) hx hb dX0_fewestLiars_46 (by decide) ?_
  refine lv_iload hx hb dX0_fewestLiars_13 (lv_at hl 0 rfl) ?_
  refine lv_bipush (v := 64) hx hb dX0_fewestLiars_15 (by decide) ?_
  refine lv_icmp_ge (tgt := 49) hx hb dX0_fewestLiars_17 (by decide) (fun c_ => absurd c_ (by decide +kernel)) (fun _ => ?_)
  refine lv_lload_n hx hb dX0_fewestLiars_20 rfl (lv_at hl 2 rfl) ?_
  refine lv_iload hx hb dX0_fewestLiars_21 (lv_at hl 0 rfl) ?_
  refine lv_lshr (v := 0) hx hb dX0_fewestLiars_23 (by decide +kernel) ?_
  refine lv_lconst (v := 1) hx hb dX0_fewestLiars_24 (by decide) ?_
  refine lv_land hx hb dX0_fewestLiars_25 ?_
  refine k_l 0 (by decide +kernel) ?_
  refine lv_lconst (v := 0) hx hb dX0_fewestLiars_26 (by decide) ?_
  refine W.lcmp hx hb dX0_fewestLiars_27 ?_
  refine k_i 0 (by decide +kernel) ?_
  refine lv_if_eq (tgt := 43) hx hb dX0_fewestLiars_28 (by decide) (fun _ => ?_) (fun c_ => absurd (by decide +kernel) c_)
  refine lv_iinc (v := 61) (lv' := [(5, .int 61), (4, .int 0), (2, .long 1), (0, .ref a0), (1, .ref a1)]) hx hb dX0_fewestLiars_43 hl (k := 0) rfl (by decide +kernel) (by decide) rfl (fun ls hl => ?_)
  refine lv_goto (tgt := 13) hx hb dX0_fewestLiars_46 (by decide) ?_
  refine lv_iload hx hb dX0_fewestLiars_13 (lv_at hl 0 rfl) ?_
  refine lv_bipush (v := 64) hx hb dX0_fewestLiars_15 (by decide) ?_
  refine lv_icmp_ge (tgt := 49) hx hb dX0_fewestLiars_17 (by decide) (fun c_ => absurd c_ (by decide +kernel)) (fun _ => ?_)
  refine lv_lload_n hx hb dX0_fewestLiars_20 rfl (lv_at hl 2 rfl) ?_
  refine lv_iload hx hb dX0_fewestLiars_21 (lv_at hl 0 rfl) ?_
  refine lv_lshr (v := 0) hx hb dX0_fewestLiars_23 (by decide +kernel) ?_
  refine lv_lconst (v := 1) hx hb dX0_fewestLiars_24 (by decide) ?_
  refine lv_land hx hb dX0_fewestLiars_25 ?_
  refine k_l 0 (by decide +kernel) ?_
  refine lv_lconst (v := 0) hx hb dX0_fewestLiars_26 (by decide) ?_
  refine W.lcmp hx hb dX0_fewestLiars_27 ?_
  refine k_i 0 (by decide +kernel) ?_
  refine lv_if_eq (tgt := 43) hx hb dX0_fewestLiars_28 (by decide) (fun _ => ?_) (fun c_ => absurd (by decide +kernel) c_)
  refine lv_iinc (v := 62) (lv' := [(5, .int 62), (4, .int 0), (2, .long 1), (0, .ref a0), (1, .ref a1)]) hx hb dX0_fewestLiars_43 hl (k := 0) rfl (by decide +kernel) (by decide) rfl (fun ls hl => ?_)
  refine lv_goto (tgt := 13) hx hb dX0_fewestLiars_46 (by decide) ?_
  refine lv_iload hx hb dX0_fewestLiars_13 (lv_at hl 0 rfl) ?_
  refine lv_bipush (v := 64) hx hb dX0_fewestLiars_15 (by decide) ?_
  refine lv_icmp_ge (tgt := 49) hx hb dX0_fewestLiars_17 (by decide) (fun c_ => absurd c_ (by decide +kernel)) (fun _ => ?_)
  refine lv_lload_n hx hb dX0_fewestLiars_20 rfl (lv_at hl 2 rfl) ?_
  refine lv_iload hx hb dX0_fewestLiars_21 (lv_at hl 0 rfl) ?_
  refine lv_lshr (v := 0) hx hb dX0_fewestLiars_23 (by decide +kernel) ?_
  refine lv_lconst (v := 1) hx hb dX0_fewestLiars_24 (by decide) ?_
  refine lv_land hx hb dX0_fewestLiars_25 ?_
  refine k_l 0 (by decide +kernel) ?_
  refine lv_lconst (v := 0) hx hb dX0_fewestLiars_26 (by decide) ?_
  refine W.lcmp hx hb dX0_fewestLiars_27 ?_
  refine k_i 0 (by decide +kernel) ?_
  refine lv_if_eq (tgt := 43) hx hb dX0_fewestLiars_28 (by decide) (fun _ => ?_) (fun c_ => absurd (by decide +kernel) c_)
  refine lv_iinc (v := 63) (lv' := [(5, .int 63), (4, .int 0), (2, .long 1), (0, .ref a0), (1, .ref a1)]) hx hb dX0_fewestLiars_43 hl (k := 0) rfl (by decide +kernel) (by decide) rfl (fun ls hl => ?_)
  refine lv_goto (tgt := 13) hx hb dX0_fewestLiars_46 (by decide) ?_
  refine lv_iload hx hb dX0_fewestLiars_13 (lv_at hl 0 rfl) ?_
  refine lv_bipush (v := 64) hx hb dX0_fewestLiars_15 (by decide) ?_
  refine lv_icmp_ge (tgt := 49) hx hb dX0_fewestLiars_17 (by decide) (fun c_ => absurd c_ (by decide +kernel)) (fun _ => ?_)
  refine lv_lload_n hx hb dX0_fewestLiars_20 rfl (lv_at hl 2 rfl) ?_
  refine lv_iload hx hb dX0_fewestLiars_21 (lv_at hl 0 rfl) ?_
  refine lv_lshr (v := 0) hx hb dX0_fewestLiars_23 (by decide +kernel) ?_
  refine lv_lconst (v := 1) hx hb dX0_fewestLiars_24 (by decide) ?_
  refine lv_land hx hb dX0_fewestLiars_25 ?_
  refine k_l 0 (by decide +kernel) ?_
  refine lv_lconst (v := 0) hx hb dX0_fewestLiars_26 (by decide) ?_
  refine W.lcmp hx hb dX0_fewestLiars_27 ?_
  refine k_i 0 (by decide +kernel) ?_
  refine lv_if_eq (tgt := 43) hx hb dX0_fewestLiars_28 (by decide) (fun _ => ?_) (fun c_ => absurd (by decide +kernel) c_)
  refine lv_iinc (v := 64) (lv' := [(5, .int 64), (4, .int 0), (2, .long 1), (0, .ref a0), (1, .ref a1)]) hx hb dX0_fewestLiars_43 hl (k := 0) rfl (by decide +kernel) (by decide) rfl (fun ls hl => ?_)
  refine lv_goto (tgt := 13) hx hb dX0_fewestLiars_46 (by decide) ?_
  refine lv_iload hx hb dX0_fewestLiars_13 (lv_at hl 0 rfl) ?_
  refine lv_bipush (v := 64) hx hb dX0_fewestLiars_15 (by decide) ?_
  refine lv_icmp_ge (tgt := 49) hx hb dX0_fewestLiars_17 (by decide) (fun _ => ?_) (fun c_ => absurd (by decide +kernel) c_)
  refine lv_iload hx hb dX0_fewestLiars_49 (lv_at hl 1 rfl) ?_
  exact k_iret hC hr hlk hK hP hD hS () [0, 1, 2] rfl (by decide) rfl (Nat.le_of_ble_eq_true rfl) (Nat.le_of_ble_eq_true rfl) dX0_fewestLiars_51
theorem dX9_fewest_0 : decode cX9_fewest 0 = .ok (.aload_n 0, 1) := by decide +kernel
theorem dX9_fewest_1 : decode cX9_fewest 1 = .ok (.iload_n 1, 1) := by decide +kernel
theorem dX9_fewest_2 : decode cX9_fewest 2 = .ok (.invokevirtual 125, 3) := by decide +kernel
theorem dX9_fewest_5 : decode cX9_fewest 5 = .ok (.istore_n 2, 1) := by decide +kernel
theorem dX9_fewest_6 : decode cX9_fewest 6 = .ok (.iload_n 2, 1) := by decide +kernel
theorem dX9_fewest_7 : decode cX9_fewest 7 = .ok (.ifCond .gt 8, 3) := by decide +kernel
theorem dX9_fewest_15 : decode cX9_fewest 15 = .ok (.aload_n 0, 1) := by decide +kernel
theorem dX9_fewest_16 : decode cX9_fewest 16 = .ok (.getfield 50, 3) := by decide +kernel
theorem dX9_fewest_19 : decode cX9_fewest 19 = .ok (.aload_n 0, 1) := by decide +kernel
theorem dX9_fewest_20 : decode cX9_fewest 20 = .ok (.getfield 10, 3) := by decide +kernel
theorem dX9_fewest_23 : decode cX9_fewest 23 = .ok (.invokevirtual 160, 3) := by decide +kernel
set_option maxRecDepth 100000 in
theorem wm_X9_160 : Cond.methodLink RX9 160 yX0_fewestLiars ∈ gw := gm (List.mem_of_getElem? (i := 1006) (by decide +kernel)) rfl
set_option maxRecDepth 100000 in
theorem mi_X0_fewestLiars : MI yX0_fewestLiars cX0_fewestLiars 6 (some .int) 1 := ⟨gm (List.mem_of_getElem? (i := 1009) rfl) rfl, gm (List.mem_of_getElem? (i := 121) (by decide +kernel)) rfl, by decide, by decide, by decide +kernel⟩
set_option maxRecDepth 100000 in
theorem in_X0_fewestLiars : Cond.instanceMethod yX0_fewestLiars ∈ gw := gm (List.mem_of_getElem? (i := 1007) (by decide +kernel)) rfl
set_option maxRecDepth 100000 in
theorem se_X0_fewestLiars : Cond.selects yX0_fewestLiars.cls yX0_fewestLiars yX0_fewestLiars ∈ gw := gm (List.mem_of_getElem? (i := 1008) (by decide +kernel)) rfl
theorem dX9_fewest_26 : decode cX9_fewest 26 = .ok (.ireturn, 1) := by decide +kernel
set_option maxHeartbeats 4000000 in
set_option maxRecDepth 100000 in
theorem c93_X9_fewest (l : Launch) (G : va_G) (cI cJ cB cZ : ClassId) (a0 a1 a2 a3 a4 a5 a6 a7 a8 a9 a10 a11 a12 a13 a14 a15 a16 a17 a18 a19 a20 a21 a22 a23 a24 a25 a26 a27 a28 a29 a30 a31 a32 a33 a34 a35 a36 a37 a38 a39 a40 a41 a42 a43 a44 a45 a46 : Nat) (x0 : Int32) : Con l G (TY cI cJ cB cZ) yX9_fewest cX9_fewest 3 (some .int) ({ frames := 4, cells := 0, slots := 0, locals := 94 } : Room) [.ref a0, .int x0] [(a0, .inr (9, [.ref a1, .ref a2, .ref a3, .int 0, .int 0, .ref a4, .ref a5, .ref a6, .ref a7])), (a1, .inr (7, [.int 100, .int 100, .int 0, .ref a8, .ref a9, .int 0, .ref a10, .ref a11, .ref a12, .ref a13, .ref a14, .ref a15, .ref a16, .ref a17, .ref a18])), (a9, .inl (cI, 2, .inl (upd (upd (fun _ => 0) 0 16) 1 16))), (a8, .inl (cI, 2, .inl (upd (upd (fun _ => 0) 0 16) 1 16))), (a17, .inr (8, [.ref a19, .ref a20, .ref a21, .ref a22, .ref a23, .ref a24, .ref a25, .int 0])), (a3, .inr (8, [.ref a26, .ref a27, .ref a28, .ref a29, .ref a30, .ref a31, .ref a32, .int 0])), (a5, .inr (0, [.ref a33, .int 0, .int 0, .long 0, .int 0, .int 0, .long 0])), (a4, .inr (4, [.ref a34, .ref a5, .ref a35, .ref a36, .ref a37, .ref a38, .ref a39, .int 100, .int 0, .int 0, .int (-1)])), (a35, .inr (8, [.ref a40, .ref a41, .ref a42, .ref a43, .ref a44, .ref a45, .ref a46, .int 0])), (a36, .inl (cI, 7, .inl (fun _ => 0))), (a33, .inl (cJ, 256, .inr (.inl (fun _ => 0))))] (QI G (TY cI cJ cB cZ) (fun (r : Int32) (u : Unit) => r = 0) (fun u : Unit => [])) := by
  refine k_met (by decide) (Nat.le_of_ble_eq_true rfl) ?_
  intro p e s m below meth c A ls hC hr hlk hnm hN hK hA hP hD hS hl
  have hl : lv_has ls 3 [(0, .ref a0), (1, .int x0)] := hl
  obtain ⟨hx, hb, hml, hown, hts⟩ := id hC
  refine lv_aload_n hx hb dX9_fewest_0 rfl (lv_at hl 0 rfl) ?_
  refine lv_iload_n hx hb dX9_fewest_1 rfl (lv_at hl 1 rfl) ?_
  refine k_ci (wr := []) (k_rV hC hN hK hP hD (c65_X9_known l G cI cJ cB cZ a0 a1 a2 a3 a4 a5 a6 a7 a8 a9 a10 a11 a12 a13 a14 a15 a16 a17 a18 a19 a20 a21 a22 a23 a24 a25 a26 a27 a28 a29 a30 a31 a32 a33 a34 a35 a36 a37 a38 a39 a40 a41 a42 a43 a44 a45 a46 x0) [0, 1, 2, 3, 4, 5, 6, 7, 8, 9, 10] rfl (by decide) mi_X9_known in_X9_known se_X9_known wm_X9_125 9 0 rfl rfl rfl hl.1 rfl rfl (Nat.le_of_ble_eq_true rfl) ⟨(Nat.le_of_ble_eq_true rfl), (Nat.le_of_ble_eq_true rfl)⟩ dX9_fewest_2 ⟨(Nat.le_of_ble_eq_true rfl), (Nat.le_of_ble_eq_true rfl)⟩) hP hD hS hA [0, 1, 2, 3, 4, 5, 6, 7, 8, 9, 10] [] rfl rfl (by decide) (by decide) (fun r1 u1 H locs hp hP hD hS => ?_)
  have hP : va_P G cl [(a0, .inr (9, [.ref a1, .ref a2, .ref a3, .int 0, .int 0, .ref a4, .ref a5, .ref a6, .ref a7])), (a1, .inr (7, [.int 100, .int 100, .int 0, .ref a8, .ref a9, .int 0, .ref a10, .ref a11, .ref a12, .ref a13, .ref a14, .ref a15, .ref a16, .ref a17, .ref a18])), (a9, .inl (cI, 2, .inl (upd (upd (fun _ => 0) 0 16) 1 16))), (a8, .inl (cI, 2, .inl (upd (upd (fun _ => 0) 0 16) 1 16))), (a17, .inr (8, [.ref a19, .ref a20, .ref a21, .ref a22, .ref a23, .ref a24, .ref a25, .int 0])), (a3, .inr (8, [.ref a26, .ref a27, .ref a28, .ref a29, .ref a30, .ref a31, .ref a32, .int 0])), (a5, .inr (0, [.ref a33, .int 1, .int 1, .long 0, .int 1, .int 0, .long 0])), (a4, .inr (4, [.ref a1, .ref a5, .ref a35, .ref a36, .ref a37, .ref a38, .ref a39, .int 100, .int 0, .int 0, .int (-1)])), (a35, .inr (8, [.ref a40, .ref a41, .ref a42, .ref a43, .ref a44, .ref a45, .ref a46, .int 0])), (a36, .inl (cI, 7, .inl (fun _ => 0))), (a33, .inl (cJ, 256, .inr (.inl (vp_updL (fun _ => 0) 0 0))))] H := hP
  have hD : va_D A [(a0, .inr (9, [.ref a1, .ref a2, .ref a3, .int 0, .int 0, .ref a4, .ref a5, .ref a6, .ref a7])), (a1, .inr (7, [.int 100, .int 100, .int 0, .ref a8, .ref a9, .int 0, .ref a10, .ref a11, .ref a12, .ref a13, .ref a14, .ref a15, .ref a16, .ref a17, .ref a18])), (a9, .inl (cI, 2, .inl (upd (upd (fun _ => 0) 0 16) 1 16))), (a8, .inl (cI, 2, .inl (upd (upd (fun _ => 0) 0 16) 1 16))), (a17, .inr (8, [.ref a19, .ref a20, .ref a21, .ref a22, .ref a23, .ref a24, .ref a25, .int 0])), (a3, .inr (8, [.ref a26, .ref a27, .ref a28, .ref a29, .ref a30, .ref a31, .ref a32, .int 0])), (a5, .inr (0, [.ref a33, .int 1, .int 1, .long 0, .int 1, .int 0, .long 0])), (a4, .inr (4, [.ref a1, .ref a5, .ref a35, .ref a36, .ref a37, .ref a38, .ref a39, .int 100, .int 0, .int 0, .int (-1)])), (a35, .inr (8, [.ref a40, .ref a41, .ref a42, .ref a43, .ref a44, .ref a45, .ref a46, .int 0])), (a36, .inl (cI, 7, .inl (fun _ => 0))), (a33, .inl (cJ, 256, .inr (.inl (vp_updL (fun _ => 0) 0 0))))] := hD
  subst hp
  refine lv_istore_n (lv' := [(2, .int 1), (0, .ref a0), (1, .int x0)]) hx hb dX9_fewest_5 rfl hl (by decide) rfl (fun ls hl => ?_)
  refine lv_iload_n hx hb dX9_fewest_6 rfl (lv_at hl 0 rfl) ?_
  refine lv_if_gt (tgt := 15) hx hb dX9_fewest_7 (by decide) (fun _ => ?_) (fun c_ => absurd (by decide +kernel) c_)
  refine lv_aload_n hx hb dX9_fewest_15 rfl (lv_at hl 1 rfl) ?_
  refine k_get hC hK hP iX9 0 6 wf_X9_50 rfl (by decide) rfl rfl dX9_fewest_16 ?_
  refine lv_aload_n hx hb dX9_fewest_19 rfl (lv_at hl 1 rfl) ?_
  refine k_get hC hK hP iX9 0 0 wf_X9_10 rfl (by decide) rfl rfl dX9_fewest_20 ?_
  refine k_ci (wr := [(a0, .inr (9, [.ref a1, .ref a2, .ref a3, .int 0, .int 0, .ref a4, .ref a5, .ref a6, .ref a7])), (a9, .inl (cI, 2, .inl (upd (upd (fun _ => 0) 0 16) 1 16))), (a8, .inl (cI, 2, .inl (upd (upd (fun _ => 0) 0 16) 1 16))), (a17, .inr (8, [.ref a19, .ref a20, .ref a21, .ref a22, .ref a23, .ref a24, .ref a25, .int 0])), (a3, .inr (8, [.ref a26, .ref a27, .ref a28, .ref a29, .ref a30, .ref a31, .ref a32, .int 0])), (a4, .inr (4, [.ref a1, .ref a5, .ref a35, .ref a36, .ref a37, .ref a38, .ref a39, .int 100, .int 0, .int 0, .int (-1)])), (a35, .inr (8, [.ref a40, .ref a41, .ref a42, .ref a43, .ref a44, .ref a45, .ref a46, .int 0])), (a36, .inl (cI, 7, .inl (fun _ => 0)))]) (k_rV hC hN hK hP hD (c92_X0_fewestLiars l G cI cJ cB cZ a5 a1 a33 a8 a9 a10 a11 a12 a13 a14 a15 a16 a17 a18) [6, 10, 1] rfl (by decide) mi_X0_fewestLiars in_X0_fewestLiars se_X0_fewestLiars wm_X9_160 0 6 rfl rfl rfl hl.1 rfl rfl (Nat.le_of_ble_eq_true rfl) ⟨(Nat.le_of_ble_eq_true rfl), (Nat.le_of_ble_eq_true rfl)⟩ dX9_fewest_23 ⟨(Nat.le_of_ble_eq_true rfl), (Nat.le_of_ble_eq_true rfl)⟩) hP hD hS hA [6, 10, 1] [0, 2, 3, 4, 5, 7, 8, 9] rfl rfl (by decide) (by decide) (fun r2 u2 H locs hp hP hD hS => ?_)
  have hP : va_P G cl [(a0, .inr (9, [.ref a1, .ref a2, .ref a3, .int 0, .int 0, .ref a4, .ref a5, .ref a6, .ref a7])), (a9, .inl (cI, 2, .inl (upd (upd (fun _ => 0) 0 16) 1 16))), (a8, .inl (cI, 2, .inl (upd (upd (fun _ => 0) 0 16) 1 16))), (a17, .inr (8, [.ref a19, .ref a20, .ref a21, .ref a22, .ref a23, .ref a24, .ref a25, .int 0])), (a3, .inr (8, [.ref a26, .ref a27, .ref a28, .ref a29, .ref a30, .ref a31, .ref a32, .int 0])), (a4, .inr (4, [.ref a1, .ref a5, .ref a35, .ref a36, .ref a37, .ref a38, .ref a39, .int 100, .int 0, .int 0, .int (-1)])), (a35, .inr (8, [.ref a40, .ref a41, .ref a42, .ref a43, .ref a44, .ref a45, .ref a46, .int 0])), (a36, .inl (cI, 7, .inl (fun _ => 0))), (a5, .inr (0, [.ref a33, .int 1, .int 1, .long 0, .int 1, .int 1, .long 1])), (a33, .inl (cJ, 256, .inr (.inl (vp_updL (fun _ => 0) 0 0)))), (a1, .inr (7, [.int 100, .int 100, .int 0, .ref a8, .ref a9, .int 0, .ref a10, .ref a11, .ref a12, .ref a13, .ref a14, .ref a15, .ref a16, .ref a17, .ref a18]))] H := hP
  have hD : va_D A [(a0, .inr (9, [.ref a1, .ref a2, .ref a3, .int 0, .int 0, .ref a4, .ref a5, .ref a6, .ref a7])), (a9, .inl (cI, 2, .inl (upd (upd (fun _ => 0) 0 16) 1 16))), (a8, .inl (cI, 2, .inl (upd (upd (fun _ => 0) 0 16) 1 16))), (a17, .inr (8, [.ref a19, .ref a20, .ref a21, .ref a22, .ref a23, .ref a24, .ref a25, .int 0])), (a3, .inr (8, [.ref a26, .ref a27, .ref a28, .ref a29, .ref a30, .ref a31, .ref a32, .int 0])), (a4, .inr (4, [.ref a1, .ref a5, .ref a35, .ref a36, .ref a37, .ref a38, .ref a39, .int 100, .int 0, .int 0, .int (-1)])), (a35, .inr (8, [.ref a40, .ref a41, .ref a42, .ref a43, .ref a44, .ref a45, .ref a46, .int 0])), (a36, .inl (cI, 7, .inl (fun _ => 0))), (a5, .inr (0, [.ref a33, .int 1, .int 1, .long 0, .int 1, .int 1, .long 1])), (a33, .inl (cJ, 256, .inr (.inl (vp_updL (fun _ => 0) 0 0)))), (a1, .inr (7, [.int 100, .int 100, .int 0, .ref a8, .ref a9, .int 0, .ref a10, .ref a11, .ref a12, .ref a13, .ref a14, .ref a15, .ref a16, .ref a17, .ref a18]))] := hD
  subst hp
  exact k_iret hC hr hlk hK hP hD hS () [] rfl (by decide) rfl (Nat.le_of_ble_eq_true rfl) (Nat.le_of_ble_eq_true rfl) dX9_fewest_26
set_option maxHeartbeats 4000000 in
set_option maxRecDepth 100000 in
theorem c94_X0_liarSets (l : Launch) (G : va_G) (cI cJ cB cZ : ClassId) (a0 a1 a2 : Nat) : Con l G (TY cI cJ cB cZ) yX0_liarSets cX0_liarSets 3 (some .long) ({ frames := 0, cells := 0, slots := 0, locals := 0 } : Room) [.ref a0, .ref a1] [(a0, .inr (0, [.ref a2, .int 1, .int 1, .long 0, .int 1, .int 1, .long 1]))] (QL G (TY cI cJ cB cZ) (fun (r : Int64) (u : Unit) => r = 1) (fun u : Unit => [(a0, .inr (0, [.ref a2, .int 1, .int 1, .long 0, .int 1, .int 1, .long 1]))])) := by
  refine k_met (by decide) (Nat.le_of_ble_eq_true rfl) ?_
  intro p e s m below meth c A ls hC hr hlk hnm hN hK hA hP hD hS hl
  have hl : lv_has ls 3 [(0, .ref a0), (1, .ref a1)] := hl
  obtain ⟨hx, hb, hml, hown, hts⟩ := id hC
  refine lv_aload_n hx hb dX0_liarSets_0 rfl (lv_at hl 0 rfl) ?_
  refine k_get hC hK hP iX0 0 5 wf_X0_30 rfl (by decide) rfl rfl dX0_liarSets_1 ?_
  refine lv_if_ne (tgt := 54) hx hb dX0_liarSets_4 (by decide) (fun _ => ?_) (fun c_ => absurd c_ (by decide +kernel))
  refine lv_aload_n hx hb dX0_liarSets_54 rfl (lv_at hl 0 rfl) ?_
  refine k_get hC hK hP iX0 0 6 wf_X0_33 rfl (by decide) rfl rfl dX0_liarSets_55 ?_
  exact k_lret hC hr hlk hK hP hD hS () [0] rfl (by decide) rfl (Nat.le_of_ble_eq_true rfl) (Nat.le_of_ble_eq_true rfl) dX0_liarSets_58
set_option maxHeartbeats 4000000 in
set_option maxRecDepth 100000 in
theorem c95_X0_fewestLiars (l : Launch) (G : va_G) (cI cJ cB cZ : ClassId) (a0 a1 a2 : Nat) : Con l G (TY cI cJ cB cZ) yX0_fewestLiars cX0_fewestLiars 6 (some .int) ({ frames := 1, cells := 0, slots := 0, locals := 22 } : Room) [.ref a0, .ref a1] [(a0, .inr (0, [.ref a2, .int 1, .int 1, .long 0, .int 1, .int 1, .long 1]))] (QI G (TY cI cJ cB cZ) (fun (r : Int32) (u : Unit) => r = 0) (fun u : Unit => [(a0, .inr (0, [.ref a2, .int 1, .int 1, .long 0, .int 1, .int 1, .long 1]))])) := by
  refine k_met (by decide) (Nat.le_of_ble_eq_true rfl) ?_
  intro p e s m below meth c A ls hC hr hlk hnm hN hK hA hP hD hS hl
  have hl : lv_has ls 6 [(0, .ref a0), (1, .ref a1)] := hl
  obtain ⟨hx, hb, hml, hown, hts⟩ := id hC
  refine lv_aload_n hx hb dX0_fewestLiars_0 rfl (lv_at hl 0 rfl) ?_
  refine lv_aload_n hx hb dX0_fewestLiars_1 rfl (lv_at hl 1 rfl) ?_
  refine k_cl (wr := []) (k_rV hC hN hK hP hD (c94_X0_liarSets l G cI cJ cB cZ a0 a1 a2) [0] rfl (by decide) mi_X0_liarSets in_X0_liarSets se_X0_liarSets wm_X0_55 0 0 rfl rfl rfl hl.1 rfl rfl (Nat.le_of_ble_eq_true rfl) ⟨(Nat.le_of_ble_eq_true rfl), (Nat.le_of_ble_eq_true rfl)⟩ dX0_fewestLiars_2 ⟨(Nat.le_of_ble_eq_true rfl), (Nat.le_of_ble_eq_true rfl)⟩) hP hD hS hA [0] [] rfl rfl (by decide) (by decide) (fun r1 u1 H locs hp hP hD hS => ?_)
  have hP : va_P G cl [(a0, .inr (0, [.ref a2, .int 1, .int 1, .long 0, .int 1, .int 1, .long 1]))] H := hP
  have hD : va_D A [(a0, .inr (0, [.ref a2, .int 1, .int 1, .long 0, .int 1, .int 1, .long 1]))] := hD
  subst hp
  refine lv_lstore_n (lv' := [(2, .long 1), (0, .ref a0), (1, .ref a1)]) hx hb dX0_fewestLiars_5 rfl hl (by decide) rfl (fun ls hl => ?_)
  refine lv_bipush (v := 6) hx hb dX0_fewestLiars_6 (by decide) ?_
  refine lv_istore (lv' := [(4, .int 6), (2, .long 1), (0, .ref a0), (1, .ref a1)]) hx hb dX0_fewestLiars_8 hl (by decide) rfl (fun ls hl => ?_)
  refine lv_iconst (v := 0) hx hb dX0_fewestLiars_10 (by decide) ?_
  refine lv_istore (lv' := [(5, .int 0), (4, .int 6), (2, .long 1), (0, .ref a0), (1, .ref a1)]) hx hb dX0_fewestLiars_11 hl (by decide) rfl (fun ls hl => ?_)
  refine lv_iload hx hb dX0_fewestLiars_13 (lv_at hl 0 rfl) ?_
  refine lv_bipush (v := 64) hx hb dX0_fewestLiars_15 (by decide) ?_
  refine lv_icmp_ge (tgt := 49) hx hb dX0_fewestLiars_17 (by decide) (fun c_ => absurd c_ (by decide +kernel)) (fun _ => ?_)
  refine lv_lload_n hx hb dX0_fewestLiars_20 rfl (lv_at hl 2 rfl) ?_
  refine lv_iload hx hb dX0_fewestLiars_21 (lv_at hl 0 rfl) ?_
  refine lv_lshr (v := 1) hx hb dX0_fewestLiars_23 (by decide +kernel) ?_
  refine lv_lconst (v := 1) hx hb dX0_fewestLiars_24 (by decide) ?_
  refine lv_land hx hb dX0_fewestLiars_25 ?_
  refine k_l 1 (by decide +kernel) ?_
  refine lv_lconst (v := 0) hx hb dX0_fewestLiars_26 (by decide) ?_
  refine W.lcmp hx hb dX0_fewestLiars_27 ?_
  refine k_i 1 (by decide +kernel) ?_
  refine lv_if_eq (tgt := 43) hx hb dX0_fewestLiars_28 (by decide) (fun c_ => absurd c_ (by decide +kernel)) (fun _ => ?_)
  refine lv_iload hx hb dX0_fewestLiars_31 (lv_at hl 1 rfl) ?_
  refine lv_iload hx hb dX0_fewestLiars_33 (lv_at hl 0 rfl) ?_
  refine k_ci (wr := [(a0, .inr (0, [.ref a2, .int 1, .int 1, .long 0, .int 1, .int 1, .long 1]))]) (k_rS hC hN hK hP hD (c91_J6_bitCount_0f7a4 l G cI cJ cB cZ) [] rfl (by decide) mi_J6_bitCount_0f7a4 st_J6_bitCount_0f7a4 wm_X0_58 hl.1 rfl rfl (Nat.le_of_ble_eq_true rfl) ⟨(Nat.le_of_ble_eq_true rfl), (Nat.le_of_ble_eq_true rfl)⟩ dX0_fewestLiars_35 ⟨(Nat.le_of_ble_eq_true rfl), (Nat.le_of_ble_eq_true rfl)⟩) hP hD hS hA [] [0] rfl rfl (by decide) (by decide) (fun r2 u2 H locs hp hP hD hS => ?_)
  have hP : va_P G cl [(a0, .inr (0, [.ref a2, .int 1, .int 1, .long 0, .int 1, .int 1, .long 1]))] H := hP
  have hD : va_D A [(a0, .inr (0, [.ref a2, .int 1, .int 1, .long 0, .int 1, .int 1, .long 1]))] := hD
  subst hp
  refine va_mmin hx hb (hml.trans hl.1.symm) hown (hts _ wm_X0_37) (hts _ st_Mmin) (hts _ ini_Math) (hts _ co_Mmin) (Nat.le_of_ble_eq_true rfl) (Nat.le_of_ble_eq_true rfl) (Nat.le_of_ble_eq_true rfl) (Nat.le_of_ble_eq_true rfl) dX0_fewestLiars_38 ?_
  refine k_i 0 (by decide +kernel) ?_
  refine lv_istore (lv' := [(4, .int 0), (5, .int 0), (2, .long 1), (0, .ref a0), (1, .ref a1)]) hx hb dX0_fewestLiars_41 hl (by decide) rfl (fun ls hl => ?_)
  refine lv_iinc (v := 1) (lv' := [(5, .int 1), (4, .int 0), (2, .long 1), (0, .ref a0), (1, .ref a1)]) hx hb dX0_fewestLiars_43 hl (k := 1) rfl (by decide +kernel) (by decide) rfl (fun ls hl => ?_)
  refine lv_goto (tgt := 13) hx hb dX0_fewestLiars_46 (by decide) ?_
  refine lv_iload hx hb dX0_fewestLiars_13 (lv_at hl 0 rfl) ?_
  refine lv_bipush (v := 64) hx hb dX0_fewestLiars_15 (by decide) ?_
  refine lv_icmp_ge (tgt := 49) hx hb dX0_fewestLiars_17 (by decide) (fun c_ => absurd c_ (by decide +kernel)) (fun _ => ?_)
  refine lv_lload_n hx hb dX0_fewestLiars_20 rfl (lv_at hl 2 rfl) ?_
  refine lv_iload hx hb dX0_fewestLiars_21 (lv_at hl 0 rfl) ?_
  refine lv_lshr (v := 0) hx hb dX0_fewestLiars_23 (by decide +kernel) ?_
  refine lv_lconst (v := 1) hx hb dX0_fewestLiars_24 (by decide) ?_
  refine lv_land hx hb dX0_fewestLiars_25 ?_
  refine k_l 0 (by decide +kernel) ?_
  refine lv_lconst (v := 0) hx hb dX0_fewestLiars_26 (by decide) ?_
  refine W.lcmp hx hb dX0_fewestLiars_27 ?_
  refine k_i 0 (by decide +kernel) ?_
  refine lv_if_eq (tgt := 43) hx hb dX0_fewestLiars_28 (by decide) (fun _ => ?_) (fun c_ => absurd (by decide +kernel) c_)
  refine lv_iinc (v := 2) (lv' := [(5, .int 2), (4, .int 0), (2, .long 1), (0, .ref a0), (1, .ref a1)]) hx hb dX0_fewestLiars_43 hl (k := 0) rfl (by decide +kernel) (by decide) rfl (fun ls hl => ?_)
  refine lv_goto (tgt := 13) hx hb dX0_fewestLiars_46 (by decide) ?_
  refine lv_iload hx hb dX0_fewestLiars_13 (lv_at hl 0 rfl) ?_
  refine lv_bipush (v := 64) hx hb dX0_fewestLiars_15 (by decide) ?_
  refine lv_icmp_ge (tgt := 49) hx hb dX0_fewestLiars_17 (by decide) (fun c_ => absurd c_ (by decide +kernel)) (fun _ => ?_)
  refine lv_lload_n hx hb dX0_fewestLiars_20 rfl (lv_at hl 2 rfl) ?_
  refine lv_iload hx hb dX0_fewestLiars_21 (lv_at hl 0 rfl) ?_
  refine lv_lshr (v := 0) hx hb dX0_fewestLiars_23 (by decide +kernel) ?_
  refine lv_lconst (v := 1) hx hb dX0_fewestLiars_24 (by decide) ?_
  refine lv_land hx hb dX0_fewestLiars_25 ?_
  refine k_l 0 (by decide +kernel) ?_
  refine lv_lconst (v := 0) hx hb dX0_fewestLiars_26 (by decide) ?_
  refine W.lcmp hx hb dX0_fewestLiars_27 ?_
  refine k_i 0 (by decide +kernel) ?_
  refine lv_if_eq (tgt := 43) hx hb dX0_fewestLiars_28 (by decide) (fun _ => ?_) (fun c_ => absurd (by decide +kernel) c_)
  refine lv_iinc (v := 3) (lv' := [(5, .int 3), (4, .int 0), (2, .long 1), (0, .ref a0), (1, .ref a1)]) hx hb dX0_fewestLiars_43 hl (k := 0) rfl (by decide +kernel) (by decide) rfl (fun ls hl => ?_)
  refine lv_goto (tgt := 13) hx hb dX0_fewestLiars_46 (by decide) ?_
  refine lv_iload hx hb dX0_fewestLiars_13 (lv_at hl 0 rfl) ?_
  refine lv_bipush (v := 64) hx hb dX0_fewestLiars_15 (by decide) ?_
  refine lv_icmp_ge (tgt := 49) hx hb dX0_fewestLiars_17 (by decide) (fun c_ => absurd c_ (by decide +kernel)) (fun _ => ?_)
  refine lv_lload_n hx hb dX0_fewestLiars_20 rfl (lv_at hl 2 rfl) ?_
  refine lv_iload hx hb dX0_fewestLiars_21 (lv_at hl 0 rfl) ?_
  refine lv_lshr (v := 0) hx hb dX0_fewestLiars_23 (by decide +kernel) ?_
  refine lv_lconst (v := 1) hx hb dX0_fewestLiars_24 (by decide) ?_
  refine lv_land hx hb dX0_fewestLiars_25 ?_
  refine k_l 0 (by decide +kernel) ?_
  refine lv_lconst (v := 0) hx hb dX0_fewestLiars_26 (by decide) ?_
  refine W.lcmp hx hb dX0_fewestLiars_27 ?_
  refine k_i 0 (by decide +kernel) ?_
  refine lv_if_eq (tgt := 43) hx hb dX0_fewestLiars_28 (by decide) (fun _ => ?_) (fun c_ => absurd (by decide +kernel) c_)
  refine lv_iinc (v := 4) (lv' := [(5, .int 4), (4, .int 0), (2, .long 1), (0, .ref a0), (1, .ref a1)]) hx hb dX0_fewestLiars_43 hl (k := 0) rfl (by decide +kernel) (by decide) rfl (fun ls hl => ?_)
  refine lv_goto (tgt := 13) hx hb dX0_fewestLiars_46 (by decide) ?_
  refine lv_iload hx hb dX0_fewestLiars_13 (lv_at hl 0 rfl) ?_
  refine lv_bipush (v := 64) hx hb dX0_fewestLiars_15 (by decide) ?_
  refine lv_icmp_ge (tgt := 49) hx hb dX0_fewestLiars_17 (by decide) (fun c_ => absurd c_ (by decide +kernel)) (fun _ => ?_)
  refine lv_lload_n hx hb dX0_fewestLiars_20 rfl (lv_at hl 2 rfl) ?_
  refine lv_iload hx hb dX0_fewestLiars_21 (lv_at hl 0 rfl) ?_
  refine lv_lshr (v := 0) hx hb dX0_fewestLiars_23 (by decide +kernel) ?_
  refine lv_lconst (v := 1) hx hb dX0_fewestLiars_24 (by decide) ?_
  refine lv_land hx hb dX0_fewestLiars_25 ?_
  refine k_l 0 (by decide +kernel) ?_
  refine lv_lconst (v := 0) hx hb dX0_fewestLiars_26 (by decide) ?_
  refine W.lcmp hx hb dX0_fewestLiars_27 ?_
  refine k_i 0 (by decide +kernel) ?_
  refine lv_if_eq (tgt := 43) hx hb dX0_fewestLiars_28 (by decide) (fun _ => ?_) (fun c_ => absurd (by decide +kernel) c_)
  refine lv_iinc (v := 5) (lv' := [(5, .int 5), (4, .int 0), (2, .long 1), (0, .ref a0), (1, .ref a1)]) hx hb dX0_fewestLiars_43 hl (k := 0) rfl (by decide +kernel) (by decide) rfl (fun ls hl => ?_)
  refine lv_goto (tgt := 13) hx hb dX0_fewestLiars_46 (by decide) ?_
  refine lv_iload hx hb dX0_fewestLiars_13 (lv_at hl 0 rfl) ?_
  refine lv_bipush (v := 64) hx hb dX0_fewestLiars_15 (by decide) ?_
  refine lv_icmp_ge (tgt := 49) hx hb dX0_fewestLiars_17 (by decide) (fun c_ => absurd c_ (by decide +kernel)) (fun _ => ?_)
  refine lv_lload_n hx hb dX0_fewestLiars_20 rfl (lv_at hl 2 rfl) ?_
  refine lv_iload hx hb dX0_fewestLiars_21 (lv_at hl 0 rfl) ?_
  refine lv_lshr (v := 0) hx hb dX0_fewestLiars_23 (by decide +kernel) ?_
  refine lv_lconst (v := 1) hx hb dX0_fewestLiars_24 (by decide) ?_
  refine lv_land hx hb dX0_fewestLiars_25 ?_
  refine k_l 0 (by decide +kernel) ?_
  refine lv_lconst (v := 0) hx hb dX0_fewestLiars_26 (by decide) ?_
  refine W.lcmp hx hb dX0_fewestLiars_27 ?_
  refine k_i 0 (by decide +kernel) ?_
  refine lv_if_eq (tgt := 43) hx hb dX0_fewestLiars_28 (by decide) (fun _ => ?_) (fun c_ => absurd (by decide +kernel) c_)
  refine lv_iinc (v := 6) (lv' := [(5, .int 6), (4, .int 0), (2, .long 1), (0, .ref a0), (1, .ref a1)]) hx hb dX0_fewestLiars_43 hl (k := 0) rfl (by decide +kernel) (by decide) rfl (fun ls hl => ?_)
  refine lv_goto (tgt := 13) hx hb dX0_fewestLiars_46 (by decide) ?_
  refine lv_iload hx hb dX0_fewestLiars_13 (lv_at hl 0 rfl) ?_
  refine lv_bipush (v := 64) hx hb dX0_fewestLiars_15 (by decide) ?_
  refine lv_icmp_ge (tgt := 49) hx hb dX0_fewestLiars_17 (by decide) (fun c_ => absurd c_ (by decide +kernel)) (fun _ => ?_)
  refine lv_lload_n hx hb dX0_fewestLiars_20 rfl (lv_at hl 2 rfl) ?_
  refine lv_iload hx hb dX0_fewestLiars_21 (lv_at hl 0 rfl) ?_
  refine lv_lshr (v := 0) hx hb dX0_fewestLiars_23 (by decide +kernel) ?_
  refine lv_lconst (v := 1) hx hb dX0_fewestLiars_24 (by decide) ?_
  refine lv_land hx hb dX0_fewestLiars_25 ?_
  refine k_l 0 (by decide +kernel) ?_
  refine lv_lconst (v := 0) hx hb dX0_fewestLiars_26 (by decide) ?_
  refine W.lcmp hx hb dX0_fewestLiars_27 ?_
  refine k_i 0 (by decide +kernel) ?_
  refine lv_if_eq (tgt := 43) hx hb dX0_fewestLiars_28 (by decide) (fun _ => ?_) (fun c_ => absurd (by decide +kernel) c_)
  refine lv_iinc (v := 7) (lv' := [(5, .int 7), (4, .int 0), (2, .long 1), (0, .ref a0), (1, .ref a1)]) hx hb dX0_fewestLiars_43 hl (k := 0) rfl (by decide +kernel) (by decide) rfl (fun ls hl => ?_)
  refine lv_goto (tgt := 13) hx hb dX0_fewestLiars_46 (by decide) ?_
  refine lv_iload hx hb dX0_fewestLiars_13 (lv_at hl 0 rfl) ?_
  refine lv_bipush (v := 64) hx hb dX0_fewestLiars_15 (by decide) ?_
  refine lv_icmp_ge (tgt := 49) hx hb dX0_fewestLiars_17 (by decide) (fun c_ => absurd c_ (by decide +kernel)) (fun _ => ?_)
  refine lv_lload_n hx hb dX0_fewestLiars_20 rfl (lv_at hl 2 rfl) ?_
  refine lv_iload hx hb dX0_fewestLiars_21 (lv_at hl 0 rfl) ?_
  refine lv_lshr (v := 0) hx hb dX0_fewestLiars_23 (by decide +kernel) ?_
  refine lv_lconst (v := 1) hx hb dX0_fewestLiars_24 (by decide) ?_
  refine lv_land hx hb dX0_fewestLiars_25 ?_
  refine k_l 0 (by decide +kernel) ?_
  refine lv_lconst (v := 0) hx hb dX0_fewestLiars_26 (by decide) ?_
  refine W.lcmp hx hb dX0_fewestLiars_27 ?_
  refine k_i 0 (by decide +kernel) ?_
  refine lv_if_eq (tgt := 43) hx hb dX0_fewestLiars_28 (by decide) (fun _ => ?_) (fun c_ => absurd (by decide +kernel) c_)
  refine lv_iinc (v := 8) (lv' := [(5, .int 8), (4, .int 0), (2, .long 1), (0, .ref a0), (1, .ref a1)]) hx hb dX0_fewestLiars_43 hl (k := 0) rfl (by decide +kernel) (by decide) rfl (fun ls hl => ?_)
  refine lv_goto (tgt := 13) hx hb dX0_fewestLiars_46 (by decide) ?_
  refine lv_iload hx hb dX0_fewestLiars_13 (lv_at hl 0 rfl) ?_
  refine lv_bipush (v := 64) hx hb dX0_fewestLiars_15 (by decide) ?_
  refine lv_icmp_ge (tgt := 49) hx hb dX0_fewestLiars_17 (by decide) (fun c_ => absurd c_ (by decide +kernel)) (fun _ => ?_)
  refine lv_lload_n hx hb dX0_fewestLiars_20 rfl (lv_at hl 2 rfl) ?_
  refine lv_iload hx hb dX0_fewestLiars_21 (lv_at hl 0 rfl) ?_
  refine lv_lshr (v := 0) hx hb dX0_fewestLiars_23 (by decide +kernel) ?_
  refine lv_lconst (v := 1) hx hb dX0_fewestLiars_24 (by decide) ?_
  refine lv_land hx hb dX0_fewestLiars_25 ?_
  refine k_l 0 (by decide +kernel) ?_
  refine lv_lconst (v := 0) hx hb dX0_fewestLiars_26 (by decide) ?_
  refine W.lcmp hx hb dX0_fewestLiars_27 ?_
  refine k_i 0 (by decide +kernel) ?_
  refine lv_if_eq (tgt := 43) hx hb dX0_fewestLiars_28 (by decide) (fun _ => ?_) (fun c_ => absurd (by decide +kernel) c_)
  refine lv_iinc (v := 9) (lv' := [(5, .int 9), (4, .int 0), (2, .long 1), (0, .ref a0), (1, .ref a1)]) hx hb dX0_fewestLiars_43 hl (k := 0) rfl (by decide +kernel) (by decide) rfl (fun ls hl => ?_)
  refine lv_goto (tgt := 13) hx hb dX0_fewestLiars_46 (by decide) ?_
  refine lv_iload hx hb dX0_fewestLiars_13 (lv_at hl 0 rfl) ?_
  refine lv_bipush (v := 64) hx hb dX0_fewestLiars_15 (by decide) ?_
  refine lv_icmp_ge (tgt := 49) hx hb dX0_fewestLiars_17 (by decide) (fun c_ => absurd c_ (by decide +kernel)) (fun _ => ?_)
  refine lv_lload_n hx hb dX0_fewestLiars_20 rfl (lv_at hl 2 rfl) ?_
  refine lv_iload hx hb dX0_fewestLiars_21 (lv_at hl 0 rfl) ?_
  refine lv_lshr (v := 0) hx hb dX0_fewestLiars_23 (by decide +kernel) ?_
  refine lv_lconst (v := 1) hx hb dX0_fewestLiars_24 (by decide) ?_
  refine lv_land hx hb dX0_fewestLiars_25 ?_
  refine k_l 0 (by decide +kernel) ?_
  refine lv_lconst (v := 0) hx hb dX0_fewestLiars_26 (by decide) ?_
  refine W.lcmp hx hb dX0_fewestLiars_27 ?_
  refine k_i 0 (by decide +kernel) ?_
  refine lv_if_eq (tgt := 43) hx hb dX0_fewestLiars_28 (by decide) (fun _ => ?_) (fun c_ => absurd (by decide +kernel) c_)
  refine lv_iinc (v := 10) (lv' := [(5, .int 10), (4, .int 0), (2, .long 1), (0, .ref a0), (1, .ref a1)]) hx hb dX0_fewestLiars_43 hl (k := 0) rfl (by decide +kernel) (by decide) rfl (fun ls hl => ?_)
  refine lv_goto (tgt := 13) hx hb dX0_fewestLiars_46 (by decide) ?_
  refine lv_iload hx hb dX0_fewestLiars_13 (lv_at hl 0 rfl) ?_
  refine lv_bipush (v := 64) hx hb dX0_fewestLiars_15 (by decide) ?_
  refine lv_icmp_ge (tgt := 49) hx hb dX0_fewestLiars_17 (by decide) (fun c_ => absurd c_ (by decide +kernel)) (fun _ => ?_)
  refine lv_lload_n hx hb dX0_fewestLiars_20 rfl (lv_at hl 2 rfl) ?_
  refine lv_iload hx hb dX0_fewestLiars_21 (lv_at hl 0 rfl) ?_
  refine lv_lshr (v := 0) hx hb dX0_fewestLiars_23 (by decide +kernel) ?_
  refine lv_lconst (v := 1) hx hb dX0_fewestLiars_24 (by decide) ?_
  refine lv_land hx hb dX0_fewestLiars_25 ?_
  refine k_l 0 (by decide +kernel) ?_
  refine lv_lconst (v := 0) hx hb dX0_fewestLiars_26 (by decide) ?_
  refine W.lcmp hx hb dX0_fewestLiars_27 ?_
  refine k_i 0 (by decide +kernel) ?_
  refine lv_if_eq (tgt := 43) hx hb dX0_fewestLiars_28 (by decide) (fun _ => ?_) (fun c_ => absurd (by decide +kernel) c_)
  refine lv_iinc (v := 11) (lv' := [(5, .int 11), (4, .int 0), (2, .long 1), (0, .ref a0), (1, .ref a1)]) hx hb dX0_fewestLiars_43 hl (k := 0) rfl (by decide +kernel) (by decide) rfl (fun ls hl => ?_)
  refine lv_goto (tgt := 13) hx hb dX0_fewestLiars_46 (by decide) ?_
  refine lv_iload hx hb dX0_fewestLiars_13 (lv_at hl 0 rfl) ?_
  refine lv_bipush (v := 64) hx hb dX0_fewestLiars_15 (by decide) ?_
  refine lv_icmp_ge (tgt := 49) hx hb dX0_fewestLiars_17 (by decide) (fun c_ => absurd c_ (by decide +kernel)) (fun _ => ?_)
  refine lv_lload_n hx hb dX0_fewestLiars_20 rfl (lv_at hl 2 rfl) ?_
  refine lv_iload hx hb dX0_fewestLiars_21 (lv_at hl 0 rfl) ?_
  refine lv_lshr (v := 0) hx hb dX0_fewestLiars_23 (by decide +kernel) ?_
  refine lv_lconst (v := 1) hx hb dX0_fewestLiars_24 (by decide) ?_
  refine lv_land hx hb dX0_fewestLiars_25 ?_
  refine k_l 0 (by decide +kernel) ?_
  refine lv_lconst (v := 0) hx hb dX0_fewestLiars_26 (by decide) ?_
  refine W.lcmp hx hb dX0_fewestLiars_27 ?_
  refine k_i 0 (by decide +kernel) ?_
  refine lv_if_eq (tgt := 43) hx hb dX0_fewestLiars_28 (by decide) (fun _ => ?_) (fun c_ => absurd (by decide +kernel) c_)
  refine lv_iinc (v := 12) (lv' := [(5, .int 12), (4, .int 0), (2, .long 1), (0, .ref a0), (1, .ref a1)]) hx hb dX0_fewestLiars_43 hl (k := 0) rfl (by decide +kernel) (by decide) rfl (fun ls hl => ?_)
  refine lv_goto (tgt := 13) hx hb dX0_fewestLiars_46 (by decide) ?_
  refine lv_iload hx hb dX0_fewestLiars_13 (lv_at hl 0 rfl) ?_
  refine lv_bipush (v := 64) hx hb dX0_fewestLiars_15 (by decide) ?_
  refine lv_icmp_ge (tgt := 49) hx hb dX0_fewestLiars_17 (by decide) (fun c_ => absurd c_ (by decide +kernel)) (fun _ => ?_)
  refine lv_lload_n hx hb dX0_fewestLiars_20 rfl (lv_at hl 2 rfl) ?_
  refine lv_iload hx hb dX0_fewestLiars_21 (lv_at hl 0 rfl) ?_
  refine lv_lshr (v := 0) hx hb dX0_fewestLiars_23 (by decide +kernel) ?_
  refine lv_lconst (v := 1) hx hb dX0_fewestLiars_24 (by decide) ?_
  refine lv_land hx hb dX0_fewestLiars_25 ?_
  refine k_l 0 (by decide +kernel) ?_
  refine lv_lconst (v := 0) hx hb dX0_fewestLiars_26 (by decide) ?_
  refine W.lcmp hx hb dX0_fewestLiars_27 ?_
  refine k_i 0 (by decide +kernel) ?_
  refine lv_if_eq (tgt := 43) hx hb dX0_fewestLiars_28 (by decide) (fun _ => ?_) (fun c_ => absurd (by decide +kernel) c_)
  refine lv_iinc (v := 13) (lv' := [(5, .int 13), (4, .int 0), (2, .long 1), (0, .ref a0), (1, .ref a1)]) hx hb dX0_fewestLiars_43 hl (k := 0) rfl (by decide +kernel) (by decide) rfl (fun ls hl => ?_)
  refine lv_goto (tgt := 13) hx hb dX0_fewestLiars_46 (by decide) ?_
  refine lv_iload hx hb dX0_fewestLiars_13 (lv_at hl 0 rfl) ?_
  refine lv_bipush (v := 64) hx hb dX0_fewestLiars_15 (by decide) ?_
  refine lv_icmp_ge (tgt := 49) hx hb dX0_fewestLiars_17 (by decide) (fun c_ => absurd c_ (by decide +kernel)) (fun _ => ?_)
  refine lv_lload_n hx hb dX0_fewestLiars_20 rfl (lv_at hl 2 rfl) ?_
  refine lv_iload hx hb dX0_fewestLiars_21 (lv_at hl 0 rfl) ?_
  refine lv_lshr (v := 0) hx hb dX0_fewestLiars_23 (by decide +kernel) ?_
  refine lv_lconst (v := 1) hx hb dX0_fewestLiars_24 (by decide) ?_
  refine lv_land hx hb dX0_fewestLiars_25 ?_
  refine k_l 0 (by decide +kernel) ?_
  refine lv_lconst (v := 0) hx hb dX0_fewestLiars_26 (by decide) ?_
  refine W.lcmp hx hb dX0_fewestLiars_27 ?_
  refine k_i 0 (by decide +kernel) ?_
  refine lv_if_eq (tgt := 43) hx hb dX0_fewestLiars_28 (by decide) (fun _ => ?_) (fun c_ => absurd (by decide +kernel) c_)
  refine lv_iinc (v := 14) (lv' := [(5, .int 14), (4, .int 0), (2, .long 1), (0, .ref a0), (1, .ref a1)]) hx hb dX0_fewestLiars_43 hl (k := 0) rfl (by decide +kernel) (by decide) rfl (fun ls hl => ?_)
  refine lv_goto (tgt := 13) hx hb dX0_fewestLiars_46 (by decide) ?_
  refine lv_iload hx hb dX0_fewestLiars_13 (lv_at hl 0 rfl) ?_
  refine lv_bipush (v := 64) hx hb dX0_fewestLiars_15 (by decide) ?_
  refine lv_icmp_ge (tgt := 49) hx hb dX0_fewestLiars_17 (by decide) (fun c_ => absurd c_ (by decide +kernel)) (fun _ => ?_)
  refine lv_lload_n hx hb dX0_fewestLiars_20 rfl (lv_at hl 2 rfl) ?_
  refine lv_iload hx hb dX0_fewestLiars_21 (lv_at hl 0 rfl) ?_
  refine lv_lshr (v := 0) hx hb dX0_fewestLiars_23 (by decide +kernel) ?_
  refine lv_lconst (v := 1) hx hb dX0_fewestLiars_24 (by decide) ?_
  refine lv_land hx hb dX0_fewestLiars_25 ?_
  refine k_l 0 (by decide +kernel) ?_
  refine lv_lconst (v := 0) hx hb dX0_fewestLiars_26 (by decide) ?_
  refine W.lcmp hx hb dX0_fewestLiars_27 ?_
  refine k_i 0 (by decide +kernel) ?_
  refine lv_if_eq (tgt := 43) hx hb dX0_fewestLiars_28 (by decide) (fun _ => ?_) (fun c_ => absurd (by decide +kernel) c_)
  refine lv_iinc (v := 15) (lv' := [(5, .int 15), (4, .int 0), (2, .long 1), (0, .ref a0), (1, .ref a1)]) hx hb dX0_fewestLiars_43 hl (k := 0) rfl (by decide +kernel) (by decide) rfl (fun ls hl => ?_)
  refine lv_goto (tgt := 13) hx hb dX0_fewestLiars_46 (by decide) ?_
  refine lv_iload hx hb dX0_fewestLiars_13 (lv_at hl 0 rfl) ?_
  refine lv_bipush (v := 64) hx hb dX0_fewestLiars_15 (by decide) ?_
  refine lv_icmp_ge (tgt := 49) hx hb dX0_fewestLiars_17 (by decide) (fun c_ => absurd c_ (by decide +kernel)) (fun _ => ?_)
  refine lv_lload_n hx hb dX0_fewestLiars_20 rfl (lv_at hl 2 rfl) ?_
  refine lv_iload hx hb dX0_fewestLiars_21 (lv_at hl 0 rfl) ?_
  refine lv_lshr (v := 0) hx hb dX0_fewestLiars_23 (by decide +kernel) ?_
  refine lv_lconst (v := 1) hx hb dX0_fewestLiars_24 (by decide) ?_
  refine lv_land hx hb dX0_fewestLiars_25 ?_
  refine k_l 0 (by decide +kernel) ?_
  refine lv_lconst (v := 0) hx hb dX0_fewestLiars_26 (by decide) ?_
  refine W.lcmp hx hb dX0_fewestLiars_27 ?_
  refine k_i 0 (by decide +kernel) ?_
  refine lv_if_eq (tgt := 43) hx hb dX0_fewestLiars_28 (by decide) (fun _ => ?_) (fun c_ => absurd (by decide +kernel) c_)
  refine lv_iinc (v := 16) (lv' := [(5, .int 16), (4, .int 0), (2, .long 1), (0, .ref a0), (1, .ref a1)]) hx hb dX0_fewestLiars_43 hl (k := 0) rfl (by decide +kernel) (by decide) rfl (fun ls hl => ?_)
  refine lv_goto (tgt := 13) hx hb dX0_fewestLiars_46 (by decide) ?_
  refine lv_iload hx hb dX0_fewestLiars_13 (lv_at hl 0 rfl) ?_
  refine lv_bipush (v := 64) hx hb dX0_fewestLiars_15 (by decide) ?_
  refine lv_icmp_ge (tgt := 49) hx hb dX0_fewestLiars_17 (by decide) (fun c_ => absurd c_ (by decide +kernel)) (fun _ => ?_)
  refine lv_lload_n hx hb dX0_fewestLiars_20 rfl (lv_at hl 2 rfl) ?_
  refine lv_iload hx hb dX0_fewestLiars_21 (lv_at hl 0 rfl) ?_
  refine lv_lshr (v := 0) hx hb dX0_fewestLiars_23 (by decide +kernel) ?_
  refine lv_lconst (v := 1) hx hb dX0_fewestLiars_24 (by decide) ?_
  refine lv_land hx hb dX0_fewestLiars_25 ?_
  refine k_l 0 (by decide +kernel) ?_
  refine lv_lconst (v := 0) hx hb dX0_fewestLiars_26 (by decide) ?_
  refine W.lcmp hx hb dX0_fewestLiars_27 ?_
  refine k_i 0 (by decide +kernel) ?_
  refine lv_if_eq (tgt := 43) hx hb dX0_fewestLiars_28 (by decide) (fun _ => ?_) (fun c_ => absurd (by decide +kernel) c_)
  refine lv_iinc (v := 17) (lv' := [(5, .int 17), (4, .int 0), (2, .long 1), (0, .ref a0), (1, .ref a1)]) hx hb dX0_fewestLiars_43 hl (k := 0) rfl (by decide +kernel) (by decide) rfl (fun ls hl => ?_)
  refine lv_goto (tgt := 13) hx hb dX0_fewestLiars_46 (by decide) ?_
  refine lv_iload hx hb dX0_fewestLiars_13 (lv_at hl 0 rfl) ?_
  refine lv_bipush (v := 64) hx hb dX0_fewestLiars_15 (by decide) ?_
  refine lv_icmp_ge (tgt := 49) hx hb dX0_fewestLiars_17 (by decide) (fun c_ => absurd c_ (by decide +kernel)) (fun _ => ?_)
  refine lv_lload_n hx hb dX0_fewestLiars_20 rfl (lv_at hl 2 rfl) ?_
  refine lv_iload hx hb dX0_fewestLiars_21 (lv_at hl 0 rfl) ?_
  refine lv_lshr (v := 0) hx hb dX0_fewestLiars_23 (by decide +kernel) ?_
  refine lv_lconst (v := 1) hx hb dX0_fewestLiars_24 (by decide) ?_
  refine lv_land hx hb dX0_fewestLiars_25 ?_
  refine k_l 0 (by decide +kernel) ?_
  refine lv_lconst (v := 0) hx hb dX0_fewestLiars_26 (by decide) ?_
  refine W.lcmp hx hb dX0_fewestLiars_27 ?_
  refine k_i 0 (by decide +kernel) ?_
  refine lv_if_eq (tgt := 43) hx hb dX0_fewestLiars_28 (by decide) (fun _ => ?_) (fun c_ => absurd (by decide +kernel) c_)
  refine lv_iinc (v := 18) (lv' := [(5, .int 18), (4, .int 0), (2, .long 1), (0, .ref a0), (1, .ref a1)]) hx hb dX0_fewestLiars_43 hl (k := 0) rfl (by decide +kernel) (by decide) rfl (fun ls hl => ?_)
  refine lv_goto (tgt := 13) hx hb dX0_fewestLiars_46 (by decide) ?_
  refine lv_iload hx hb dX0_fewestLiars_13 (lv_at hl 0 rfl) ?_
  refine lv_bipush (v := 64) hx hb dX0_fewestLiars_15 (by decide) ?_
  refine lv_icmp_ge (tgt := 49) hx hb dX0_fewestLiars_17 (by decide) (fun c_ => absurd c_ (by decide +kernel)) (fun _ => ?_)
  refine lv_lload_n hx hb dX0_fewestLiars_20 rfl (lv_at hl 2 rfl) ?_
  refine lv_iload hx hb dX0_fewestLiars_21 (lv_at hl 0 rfl) ?_
  refine lv_lshr (v := 0) hx hb dX0_fewestLiars_23 (by decide +kernel) ?_
  refine lv_lconst (v := 1) hx hb dX0_fewestLiars_24 (by decide) ?_
  refine lv_land hx hb dX0_fewestLiars_25 ?_
  refine k_l 0 (by decide +kernel) ?_
  refine lv_lconst (v := 0) hx hb dX0_fewestLiars_26 (by decide) ?_
  refine W.lcmp hx hb dX0_fewestLiars_27 ?_
  refine k_i 0 (by decide +kernel) ?_
  refine lv_if_eq (tgt := 43) hx hb dX0_fewestLiars_28 (by decide) (fun _ => ?_) (fun c_ => absurd (by decide +kernel) c_)
  refine lv_iinc (v := 19) (lv' := [(5, .int 19), (4, .int 0), (2, .long 1), (0, .ref a0), (1, .ref a1)]) hx hb dX0_fewestLiars_43 hl (k := 0) rfl (by decide +kernel) (by decide) rfl (fun ls hl => ?_)
  refine lv_goto (tgt := 13) hx hb dX0_fewestLiars_46 (by decide) ?_
  refine lv_iload hx hb dX0_fewestLiars_13 (lv_at hl 0 rfl) ?_
  refine lv_bipush (v := 64) hx hb dX0_fewestLiars_15 (by decide) ?_
  refine lv_icmp_ge (tgt := 49) hx hb dX0_fewestLiars_17 (by decide) (fun c_ => absurd c_ (by decide +kernel)) (fun _ => ?_)
  refine lv_lload_n hx hb dX0_fewestLiars_20 rfl (lv_at hl 2 rfl) ?_
  refine lv_iload hx hb dX0_fewestLiars_21 (lv_at hl 0 rfl) ?_
  refine lv_lshr (v := 0) hx hb dX0_fewestLiars_23 (by decide +kernel) ?_
  refine lv_lconst (v := 1) hx hb dX0_fewestLiars_24 (by decide) ?_
  refine lv_land hx hb dX0_fewestLiars_25 ?_
  refine k_l 0 (by decide +kernel) ?_
  refine lv_lconst (v := 0) hx hb dX0_fewestLiars_26 (by decide) ?_
  refine W.lcmp hx hb dX0_fewestLiars_27 ?_
  refine k_i 0 (by decide +kernel) ?_
  refine lv_if_eq (tgt := 43) hx hb dX0_fewestLiars_28 (by decide) (fun _ => ?_) (fun c_ => absurd (by decide +kernel) c_)
  refine lv_iinc (v := 20) (lv' := [(5, .int 20), (4, .int 0), (2, .long 1), (0, .ref a0), (1, .ref a1)]) hx hb dX0_fewestLiars_43 hl (k := 0) rfl (by decide +kernel) (by decide) rfl (fun ls hl => ?_)
  refine lv_goto (tgt := 13) hx hb dX0_fewestLiars_46 (by decide) ?_
  refine lv_iload hx hb dX0_fewestLiars_13 (lv_at hl 0 rfl) ?_
  refine lv_bipush (v := 64) hx hb dX0_fewestLiars_15 (by decide) ?_
  refine lv_icmp_ge (tgt := 49) hx hb dX0_fewestLiars_17 (by decide) (fun c_ => absurd c_ (by decide +kernel)) (fun _ => ?_)
  refine lv_lload_n hx hb dX0_fewestLiars_20 rfl (lv_at hl 2 rfl) ?_
  refine lv_iload hx hb dX0_fewestLiars_21 (lv_at hl 0 rfl) ?_
  refine lv_lshr (v := 0) hx hb dX0_fewestLiars_23 (by decide +kernel) ?_
  refine lv_lconst (v := 1) hx hb dX0_fewestLiars_24 (by decide) ?_
  refine lv_land hx hb dX0_fewestLiars_25 ?_
  refine k_l 0 (by decide +kernel) ?_
  refine lv_lconst (v := 0) hx hb dX0_fewestLiars_26 (by decide) ?_
  refine W.lcmp hx hb dX0_fewestLiars_27 ?_
  refine k_i 0 (by decide +kernel) ?_
  refine lv_if_eq (tgt := 43) hx hb dX0_fewestLiars_28 (by decide) (fun _ => ?_) (fun c_ => absurd (by decide +kernel) c_)
  refine lv_iinc (v := 21) (lv' := [(5, .int 21), (4, .int 0), (2, .long 1), (0, .ref a0), (1, .ref a1)]) hx hb dX0_fewestLiars_43 hl (k := 0) rfl (by decide +kernel) (by decide) rfl (fun ls hl => ?_)
  refine lv_goto (tgt := 13) hx hb dX0_fewestLiars_46 (by decide) ?_
  refine lv_iload hx hb dX0_fewestLiars_13 (lv_at hl 0 rfl) ?_
  refine lv_bipush (v := 64) hx hb dX0_fewestLiars_15 (by decide) ?_
  refine lv_icmp_ge (tgt := 49) hx hb dX0_fewestLiars_17 (by decide) (fun c_ => absurd c_ (by decide +kernel)) (fun _ => ?_)
  refine lv_lload_n hx hb dX0_fewestLiars_20 rfl (lv_at hl 2 rfl) ?_
  refine lv_iload hx hb dX0_fewestLiars_21 (lv_at hl 0 rfl) ?_
  refine lv_lshr (v := 0) hx hb dX0_fewestLiars_23 (by decide +kernel) ?_
  refine lv_lconst (v := 1) hx hb dX0_fewestLiars_24 (by decide) ?_
  refine lv_land hx hb dX0_fewestLiars_25 ?_
  refine k_l 0 (by decide +kernel) ?_
  refine lv_lconst (v := 0) hx hb dX0_fewestLiars_26 (by decide) ?_
  refine W.lcmp hx hb dX0_fewestLiars_27 ?_
  refine k_i 0 (by decide +kernel) ?_
  refine lv_if_eq (tgt := 43) hx hb dX0_fewestLiars_28 (by decide) (fun _ => ?_) (fun c_ => absurd (by decide +kernel) c_)
  refine lv_iinc (v := 22) (lv' := [(5, .int 22), (4, .int 0), (2, .long 1), (0, .ref a0), (1, .ref a1)]) hx hb dX0_fewestLiars_43 hl (k := 0) rfl (by decide +kernel) (by decide) rfl (fun ls hl => ?_)
  refine lv_goto (tgt := 13) hx hb dX0_fewestLiars_46 (by decide) ?_
  refine lv_iload hx hb dX0_fewestLiars_13 (lv_at hl 0 rfl) ?_
  refine lv_bipush (v := 64) hx hb dX0_fewestLiars_15 (by decide) ?_
  refine lv_icmp_ge (tgt := 49) hx hb dX0_fewestLiars_17 (by decide) (fun c_ => absurd c_ (by decide +kernel)) (fun _ => ?_)
  refine lv_lload_n hx hb dX0_fewestLiars_20 rfl (lv_at hl 2 rfl) ?_
  refine lv_iload hx hb dX0_fewestLiars_21 (lv_at hl 0 rfl) ?_
  refine lv_lshr (v := 0) hx hb dX0_fewestLiars_23 (by decide +kernel) ?_
  refine lv_lconst (v := 1) hx hb dX0_fewestLiars_24 (by decide) ?_
  refine lv_land hx hb dX0_fewestLiars_25 ?_
  refine k_l 0 (by decide +kernel) ?_
  refine lv_lconst (v := 0) hx hb dX0_fewestLiars_26 (by decide) ?_
  refine W.lcmp hx hb dX0_fewestLiars_27 ?_
  refine k_i 0 (by decide +kernel) ?_
  refine lv_if_eq (tgt := 43) hx hb dX0_fewestLiars_28 (by decide) (fun _ => ?_) (fun c_ => absurd (by decide +kernel) c_)
  refine lv_iinc (v := 23) (lv' := [(5, .int 23), (4, .int 0), (2, .long 1), (0, .ref a0), (1, .ref a1)]) hx hb dX0_fewestLiars_43 hl (k := 0) rfl (by decide +kernel) (by decide) rfl (fun ls hl => ?_)
  refine lv_goto (tgt := 13) hx hb dX0_fewestLiars_46 (by decide) ?_
  refine lv_iload hx hb dX0_fewestLiars_13 (lv_at hl 0 rfl) ?_
  refine lv_bipush (v := 64) hx hb dX0_fewestLiars_15 (by decide) ?_
  refine lv_icmp_ge (tgt := 49) hx hb dX0_fewestLiars_17 (by decide) (fun c_ => absurd c_ (by decide +kernel)) (fun _ => ?_)
  refine lv_lload_n hx hb dX0_fewestLiars_20 rfl (lv_at hl 2 rfl) ?_
  refine lv_iload hx hb dX0_fewestLiars_21 (lv_at hl 0 rfl) ?_
  refine lv_lshr (v := 0) hx hb dX0_fewestLiars_23 (by decide +kernel) ?_
  refine lv_lconst (v := 1) hx hb dX0_fewestLiars_24 (by decide) ?_
  refine lv_land hx hb dX0_fewestLiars_25 ?_
  refine k_l 0 (by decide +kernel) ?_
  refine lv_lconst (v := 0) hx hb dX0_fewestLiars_26 (by decide) ?_
  refine W.lcmp hx hb dX0_fewestLiars_27 ?_
  refine k_i 0 (by decide +kernel) ?_
  refine lv_if_eq (tgt := 43) hx hb dX0_fewestLiars_28 (by decide) (fun _ => ?_) (fun c_ => absurd (by decide +kernel) c_)
  refine lv_iinc (v := 24) (lv' := [(5, .int 24), (4, .int 0), (2, .long 1), (0, .ref a0), (1, .ref a1)]) hx hb dX0_fewestLiars_43 hl (k := 0) rfl (by decide +kernel) (by decide) rfl (fun ls hl => ?_)
  refine lv_goto (tgt := 13) hx hb dX0_fewestLiars_46 (by decide) ?_
  refine lv_iload hx hb dX0_fewestLiars_13 (lv_at hl 0 rfl) ?_
  refine lv_bipush (v := 64) hx hb dX0_fewestLiars_15 (by decide) ?_
  refine lv_icmp_ge (tgt := 49) hx hb dX0_fewestLiars_17 (by decide) (fun c_ => absurd c_ (by decide +kernel)) (fun _ => ?_)
  refine lv_lload_n hx hb dX0_fewestLiars_20 rfl (lv_at hl 2 rfl) ?_
  refine lv_iload hx hb dX0_fewestLiars_21 (lv_at hl 0 rfl) ?_
  refine lv_lshr (v := 0) hx hb dX0_fewestLiars_23 (by decide +kernel) ?_
  refine lv_lconst (v := 1) hx hb dX0_fewestLiars_24 (by decide) ?_
  refine lv_land hx hb dX0_fewestLiars_25 ?_
  refine k_l 0 (by decide +kernel) ?_
  refine lv_lconst (v := 0) hx hb dX0_fewestLiars_26 (by decide) ?_
  refine W.lcmp hx hb dX0_fewestLiars_27 ?_
  refine k_i 0 (by decide +kernel) ?_
  refine lv_if_eq (tgt := 43) hx hb dX0_fewestLiars_28 (by decide) (fun _ => ?_) (fun c_ => absurd (by decide +kernel) c_)
  refine lv_iinc (v := 25) (lv' := [(5, .int 25), (4, .int 0), (2, .long 1), (0, .ref a0), (1, .ref a1)]) hx hb dX0_fewestLiars_43 hl (k := 0) rfl (by decide +kernel) (by decide) rfl (fun ls hl => ?_)
  refine lv_goto (tgt := 13) hx hb dX0_fewestLiars_46 (by decide) ?_
  refine lv_iload hx hb dX0_fewestLiars_13 (lv_at hl 0 rfl) ?_
  refine lv_bipush (v := 64) hx hb dX0_fewestLiars_15 (by decide) ?_
  refine lv_icmp_ge (tgt := 49) hx hb dX0_fewestLiars_17 (by decide) (fun c_ => absurd c_ (by decide +kernel)) (fun _ => ?_)
  refine lv_lload_n hx hb dX0_fewestLiars_20 rfl (lv_at hl 2 rfl) ?_
  refine lv_iload hx hb dX0_fewestLiars_21 (lv_at hl 0 rfl) ?_
  refine lv_lshr (v := 0) hx hb dX0_fewestLiars_23 (by decide +kernel) ?_
  refine lv_lconst (v := 1) hx hb dX0_fewestLiars_24 (by decide) ?_
  refine lv_land hx hb dX0_fewestLiars_25 ?_
  refine k_l 0 (by decide +kernel) ?_
  refine lv_lconst (v := 0) hx hb dX0_fewestLiars_26 (by decide) ?_
  refine W.lcmp hx hb dX0_fewestLiars_27 ?_
  refine k_i 0 (by decide +kernel) ?_
  refine lv_if_eq (tgt := 43) hx hb dX0_fewestLiars_28 (by decide) (fun _ => ?_) (fun c_ => absurd (by decide +kernel) c_)
  refine lv_iinc (v := 26) (lv' := [(5, .int 26), (4, .int 0), (2, .long 1), (0, .ref a0), (1, .ref a1)]) hx hb dX0_fewestLiars_43 hl (k := 0) rfl (by decide +kernel) (by decide) rfl (fun ls hl => ?_)
  refine lv_goto (tgt := 13) hx hb dX0_fewestLiars_46 (by decide) ?_
  refine lv_iload hx hb dX0_fewestLiars_13 (lv_at hl 0 rfl) ?_
  refine lv_bipush (v := 64) hx hb dX0_fewestLiars_15 (by decide) ?_
  refine lv_icmp_ge (tgt := 49) hx hb dX0_fewestLiars_17 (by decide) (fun c_ => absurd c_ (by decide +kernel)) (fun _ => ?_)
  refine lv_lload_n hx hb dX0_fewestLiars_20 rfl (lv_at hl 2 rfl) ?_
  refine lv_iload hx hb dX0_fewestLiars_21 (lv_at hl 0 rfl) ?_
  refine lv_lshr (v := 0) hx hb dX0_fewestLiars_23 (by decide +kernel) ?_
  refine lv_lconst (v := 1) hx hb dX0_fewestLiars_24 (by decide) ?_
  refine lv_land hx hb dX0_fewestLiars_25 ?_
  refine k_l 0 (by decide +kernel) ?_
  refine lv_lconst (v := 0) hx hb dX0_fewestLiars_26 (by decide) ?_
  refine W.lcmp hx hb dX0_fewestLiars_27 ?_
  refine k_i 0 (by decide +kernel) ?_
  refine lv_if_eq (tgt := 43) hx hb dX0_fewestLiars_28 (by decide) (fun _ => ?_) (fun c_ => absurd (by decide +kernel) c_)
  refine lv_iinc (v := 27) (lv' := [(5, .int 27), (4, .int 0), (2, .long 1), (0, .ref a0), (1, .ref a1)]) hx hb dX0_fewestLiars_43 hl (k := 0) rfl (by decide +kernel) (by decide) rfl (fun ls hl => ?_)
  refine lv_goto (tgt := 13) hx hb dX0_fewestLiars_46 (by decide) ?_
  refine lv_iload hx hb dX0_fewestLiars_13 (lv_at hl 0 rfl) ?_
  refine lv_bipush (v := 64) hx hb dX0_fewestLiars_15 (by decide) ?_
  refine lv_icmp_ge (tgt := 49) hx hb dX0_fewestLiars_17 (by decide) (fun c_ => absurd c_ (by decide +kernel)) (fun _ => ?_)
  refine lv_lload_n hx hb dX0_fewestLiars_20 rfl (lv_at hl 2 rfl) ?_
  refine lv_iload hx hb dX0_fewestLiars_21 (lv_at hl 0 rfl) ?_
  refine lv_lshr (v := 0) hx hb dX0_fewestLiars_23 (by decide +kernel) ?_
  refine lv_lconst (v := 1) hx hb dX0_fewestLiars_24 (by decide) ?_
  refine lv_land hx hb dX0_fewestLiars_25 ?_
  refine k_l 0 (by decide +kernel) ?_
  refine lv_lconst (v := 0) hx hb dX0_fewestLiars_26 (by decide) ?_
  refine W.lcmp hx hb dX0_fewestLiars_27 ?_
  refine k_i 0 (by decide +kernel) ?_
  refine lv_if_eq (tgt := 43) hx hb dX0_fewestLiars_28 (by decide) (fun _ => ?_) (fun c_ => absurd (by decide +kernel) c_)
  refine lv_iinc (v := 28) (lv' := [(5, .int 28), (4, .int 0), (2, .long 1), (0, .ref a0), (1, .ref a1)]) hx hb dX0_fewestLiars_43 hl (k := 0) rfl (by decide +kernel) (by decide) rfl (fun ls hl => ?_)
  refine lv_goto (tgt := 13) hx hb dX0_fewestLiars_46 (by decide) ?_
  refine lv_iload hx hb dX0_fewestLiars_13 (lv_at hl 0 rfl) ?_
  refine lv_bipush (v := 64) hx hb dX0_fewestLiars_15 (by decide) ?_
  refine lv_icmp_ge (tgt := 49) hx hb dX0_fewestLiars_17 (by decide) (fun c_ => absurd c_ (by decide +kernel)) (fun _ => ?_)
  refine lv_lload_n hx hb dX0_fewestLiars_20 rfl (lv_at hl 2 rfl) ?_
  refine lv_iload hx hb dX0_fewestLiars_21 (lv_at hl 0 rfl) ?_
  refine lv_lshr (v := 0) hx hb dX0_fewestLiars_23 (by decide +kernel) ?_
  refine lv_lconst (v := 1) hx hb dX0_fewestLiars_24 (by decide) ?_
  refine lv_land hx hb dX0_fewestLiars_25 ?_
  refine k_l 0 (by decide +kernel) ?_
  refine lv_lconst (v := 0) hx hb dX0_fewestLiars_26 (by decide) ?_
  refine W.lcmp hx hb dX0_fewestLiars_27 ?_
  refine k_i 0 (by decide +kernel) ?_
  refine lv_if_eq (tgt := 43) hx hb dX0_fewestLiars_28 (by decide) (fun _ => ?_) (fun c_ => absurd (by decide +kernel) c_)
  refine lv_iinc (v := 29) (lv' := [(5, .int 29), (4, .int 0), (2, .long 1), (0, .ref a0), (1, .ref a1)]) hx hb dX0_fewestLiars_43 hl (k := 0) rfl (by decide +kernel) (by decide) rfl (fun ls hl => ?_)
  refine lv_goto (tgt := 13) hx hb dX0_fewestLiars_46 (by decide) ?_
  refine lv_iload hx hb dX0_fewestLiars_13 (lv_at hl 0 rfl) ?_
  refine lv_bipush (v := 64) hx hb dX0_fewestLiars_15 (by decide) ?_
  refine lv_icmp_ge (tgt := 49) hx hb dX0_fewestLiars_17 (by decide) (fun c_ => absurd c_ (by decide +kernel)) (fun _ => ?_)
  refine lv_lload_n hx hb dX0_fewestLiars_20 rfl (lv_at hl 2 rfl) ?_
  refine lv_iload hx hb dX0_fewestLiars_21 (lv_at hl 0 rfl) ?_
  refine lv_lshr (v := 0) hx hb dX0_fewestLiars_23 (by decide +kernel) ?_
  refine lv_lconst (v := 1) hx hb dX0_fewestLiars_24 (by decide) ?_
  refine lv_land hx hb dX0_fewestLiars_25 ?_
  refine k_l 0 (by decide +kernel) ?_
  refine lv_lconst (v := 0) hx hb dX0_fewestLiars_26 (by decide) ?_
  refine W.lcmp hx hb dX0_fewestLiars_27 ?_
  refine k_i 0 (by decide +kernel) ?_
  refine lv_if_eq (tgt := 43) hx hb dX0_fewestLiars_28 (by decide) (fun _ => ?_) (fun c_ => absurd (by decide +kernel) c_)
  refine lv_iinc (v := 30) (lv' := [(5, .int 30), (4, .int 0), (2, .long 1), (0, .ref a0), (1, .ref a1)]) hx hb dX0_fewestLiars_43 hl (k := 0) rfl (by decide +kernel) (by decide) rfl (fun ls hl => ?_)
  refine lv_goto (tgt := 13) hx hb dX0_fewestLiars_46 (by decide) ?_
  refine lv_iload hx hb dX0_fewestLiars_13 (lv_at hl 0 rfl) ?_
  refine lv_bipush (v := 64) hx hb dX0_fewestLiars_15 (by decide) ?_
  refine lv_icmp_ge (tgt := 49) hx hb dX0_fewestLiars_17 (by decide) (fun c_ => absurd c_ (by decide +kernel)) (fun _ => ?_)
  refine lv_lload_n hx hb dX0_fewestLiars_20 rfl (lv_at hl 2 rfl) ?_
  refine lv_iload hx hb dX0_fewestLiars_21 (lv_at hl 0 rfl) ?_
  refine lv_lshr (v := 0) hx hb dX0_fewestLiars_23 (by decide +kernel) ?_
  refine lv_lconst (v := 1) hx hb dX0_fewestLiars_24 (by decide) ?_
  refine lv_land hx hb dX0_fewestLiars_25 ?_
  refine k_l 0 (by decide +kernel) ?_
  refine lv_lconst (v := 0) hx hb dX0_fewestLiars_26 (by decide) ?_
  refine W.lcmp hx hb dX0_fewestLiars_27 ?_
  refine k_i 0 (by decide +kernel) ?_
  refine lv_if_eq (tgt := 43) hx hb dX0_fewestLiars_28 (by decide) (fun _ => ?_) (fun c_ => absurd (by decide +kernel) c_)
  refine lv_iinc (v := 31) (lv' := [(5, .int 31), (4, .int 0), (2, .long 1), (0, .ref a0), (1, .ref a1)]) hx hb dX0_fewestLiars_43 hl (k := 0) rfl (by decide +kernel) (by decide) rfl (fun ls hl => ?_)
  refine lv_goto (tgt := 13) hx hb dX0_fewestLiars_46 (by decide) ?_
  refine lv_iload hx hb dX0_fewestLiars_13 (lv_at hl 0 rfl) ?_
  refine lv_bipush (v := 64) hx hb dX0_fewestLiars_15 (by decide) ?_
  refine lv_icmp_ge (tgt := 49) hx hb dX0_fewestLiars_17 (by decide) (fun c_ => absurd c_ (by decide +kernel)) (fun _ => ?_)
  refine lv_lload_n hx hb dX0_fewestLiars_20 rfl (lv_at hl 2 rfl) ?_
  refine lv_iload hx hb dX0_fewestLiars_21 (lv_at hl 0 rfl) ?_
  refine lv_lshr (v := 0) hx hb dX0_fewestLiars_23 (by decide +kernel) ?_
  refine lv_lconst (v := 1) hx hb dX0_fewestLiars_24 (by decide) ?_
  refine lv_land hx hb dX0_fewestLiars_25 ?_
  refine k_l 0 (by decide +kernel) ?_
  refine lv_lconst (v := 0) hx hb dX0_fewestLiars_26 (by decide) ?_
  refine W.lcmp hx hb dX0_fewestLiars_27 ?_
  refine k_i 0 (by decide +kernel) ?_
  refine lv_if_eq (tgt := 43) hx hb dX0_fewestLiars_28 (by decide) (fun _ => ?_) (fun c_ => absurd (by decide +kernel) c_)
  refine lv_iinc (v := 32) (lv' := [(5, .int 32), (4, .int 0), (2, .long 1), (0, .ref a0), (1, .ref a1)]) hx hb dX0_fewestLiars_43 hl (k := 0) rfl (by decide +kernel) (by decide) rfl (fun ls hl => ?_)
  refine lv_goto (tgt := 13) hx hb dX0_fewestLiars_46 (by decide) ?_
  refine lv_iload hx hb dX0_fewestLiars_13 (lv_at hl 0 rfl) ?_
  refine lv_bipush (v := 64) hx hb dX0_fewestLiars_15 (by decide) ?_
  refine lv_icmp_ge (tgt := 49) hx hb dX0_fewestLiars_17 (by decide) (fun c_ => absurd c_ (by decide +kernel)) (fun _ => ?_)
  refine lv_lload_n hx hb dX0_fewestLiars_20 rfl (lv_at hl 2 rfl) ?_
  refine lv_iload hx hb dX0_fewestLiars_21 (lv_at hl 0 rfl) ?_
  refine lv_lshr (v := 0) hx hb dX0_fewestLiars_23 (by decide +kernel) ?_
  refine lv_lconst (v := 1) hx hb dX0_fewestLiars_24 (by decide) ?_
  refine lv_land hx hb dX0_fewestLiars_25 ?_
  refine k_l 0 (by decide +kernel) ?_
  refine lv_lconst (v := 0) hx hb dX0_fewestLiars_26 (by decide) ?_
  refine W.lcmp hx hb dX0_fewestLiars_27 ?_
  refine k_i 0 (by decide +kernel) ?_
  refine lv_if_eq (tgt := 43) hx hb dX0_fewestLiars_28 (by decide) (fun _ => ?_) (fun c_ => absurd (by decide +kernel) c_)
  refine lv_iinc (v := 33) (lv' := [(5, .int 33), (4, .int 0), (2, .long 1), (0, .ref a0), (1, .ref a1)]) hx hb dX0_fewestLiars_43 hl (k := 0) rfl (by decide +kernel) (by decide) rfl (fun ls hl => ?_)
  refine lv_goto (tgt := 13) hx hb dX0_fewestLiars_46 (by decide) ?_
  refine lv_iload hx hb dX0_fewestLiars_13 (lv_at hl 0 rfl) ?_
  refine lv_bipush (v := 64) hx hb dX0_fewestLiars_15 (by decide) ?_
  refine lv_icmp_ge (tgt := 49) hx hb dX0_fewestLiars_17 (by decide) (fun c_ => absurd c_ (by decide +kernel)) (fun _ => ?_)
  refine lv_lload_n hx hb dX0_fewestLiars_20 rfl (lv_at hl 2 rfl) ?_
  refine lv_iload hx hb dX0_fewestLiars_21 (lv_at hl 0 rfl) ?_
  refine lv_lshr (v := 0) hx hb dX0_fewestLiars_23 (by decide +kernel) ?_
  refine lv_lconst (v := 1) hx hb dX0_fewestLiars_24 (by decide) ?_
  refine lv_land hx hb dX0_fewestLiars_25 ?_
  refine k_l 0 (by decide +kernel) ?_
  refine lv_lconst (v := 0) hx hb dX0_fewestLiars_26 (by decide) ?_
  refine W.lcmp hx hb dX0_fewestLiars_27 ?_
  refine k_i 0 (by decide +kernel) ?_
  refine lv_if_eq (tgt := 43) hx hb dX0_fewestLiars_28 (by decide) (fun _ => ?_) (fun c_ => absurd (by decide +kernel) c_)
  refine lv_iinc (v := 34) (lv' := [(5, .int 34), (4, .int 0), (2, .long 1), (0, .ref a0), (1, .ref a1)]) hx hb dX0_fewestLiars_43 hl (k := 0) rfl (by decide +kernel) (by decide) rfl (fun ls hl => ?_)
  refine lv_goto (tgt := 13) hx hb dX0_fewestLiars_46 (by decide) ?_
  refine lv_iload hx hb dX0_fewestLiars_13 (lv_at hl 0 rfl) ?_
  refine lv_bipush (v := 64) hx hb dX0_fewestLiars_15 (by decide) ?_
  refine lv_icmp_ge (tgt := 49) hx hb dX0_fewestLiars_17 (by decide) (fun c_ => absurd c_ (by decide +kernel)) (fun _ => ?_)
  refine lv_lload_n hx hb dX0_fewestLiars_20 rfl (lv_at hl 2 rfl) ?_
  refine lv_iload hx hb dX0_fewestLiars_21 (lv_at hl 0 rfl) ?_
  refine lv_lshr (v := 0) hx hb dX0_fewestLiars_23 (by decide +kernel) ?_
  refine lv_lconst (v := 1) hx hb dX0_fewestLiars_24 (by decide) ?_
  refine lv_land hx hb dX0_fewestLiars_25 ?_
  refine k_l 0 (by decide +kernel) ?_
  refine lv_lconst (v := 0) hx hb dX0_fewestLiars_26 (by decide) ?_
  refine W.lcmp hx hb dX0_fewestLiars_27 ?_
  refine k_i 0 (by decide +kernel) ?_
  refine lv_if_eq (tgt := 43) hx hb dX0_fewestLiars_28 (by decide) (fun _ => ?_) (fun c_ => absurd (by decide +kernel) c_)
  refine lv_iinc (v := 35) (lv' := [(5, .int 35), (4, .int 0), (2, .long 1), (0, .ref a0), (1, .ref a1)]) hx hb dX0_fewestLiars_43 hl (k := 0) rfl (by decide +kernel) (by decide) rfl (fun ls hl => ?_)
  refine lv_goto (tgt := 13) hx hb dX0_fewestLiars_46 (by decide) ?_
  refine lv_iload hx hb dX0_fewestLiars_13 (lv_at hl 0 rfl) ?_
  refine lv_bipush (v := 64) hx hb dX0_fewestLiars_15 (by decide) ?_
  refine lv_icmp_ge (tgt := 49) hx hb dX0_fewestLiars_17 (by decide) (fun c_ => absurd c_ (by decide +kernel)) (fun _ => ?_)
  refine lv_lload_n hx hb dX0_fewestLiars_20 rfl (lv_at hl 2 rfl) ?_
  refine lv_iload hx hb dX0_fewestLiars_21 (lv_at hl 0 rfl) ?_
  refine lv_lshr (v := 0) hx hb dX0_fewestLiars_23 (by decide +kernel) ?_
  refine lv_lconst (v := 1) hx hb dX0_fewestLiars_24 (by decide) ?_
  refine lv_land hx hb dX0_fewestLiars_25 ?_
  refine k_l 0 (by decide +kernel) ?_
  refine lv_lconst (v := 0) hx hb dX0_fewestLiars_26 (by decide) ?_
  refine W.lcmp hx hb dX0_fewestLiars_27 ?_
  refine k_i 0 (by decide +kernel) ?_
  refine lv_if_eq (tgt := 43) hx hb dX0_fewestLiars_28 (by decide) (fun _ => ?_) (fun c_ => absurd (by decide +kernel) c_)
  refine lv_iinc (v := 36) (lv' := [(5, .int 36), (4, .int 0), (2, .long 1), (0, .ref a0), (1, .ref a1)]) hx hb dX0_fewestLiars_43 hl (k := 0) rfl (by decide +kernel) (by decide) rfl (fun ls hl => ?_)
  refine lv_goto (tgt := 13) hx hb dX0_fewestLiars_46 (by decide) ?_
  refine lv_iload hx hb dX0_fewestLiars_13 (lv_at hl 0 rfl) ?_
  refine lv_bipush (v := 64) hx hb dX0_fewestLiars_15 (by decide) ?_
  refine lv_icmp_ge (tgt := 49) hx hb dX0_fewestLiars_17 (by decide) (fun c_ => absurd c_ (by decide +kernel)) (fun _ => ?_)
  refine lv_lload_n hx hb dX0_fewestLiars_20 rfl (lv_at hl 2 rfl) ?_
  refine lv_iload hx hb dX0_fewestLiars_21 (lv_at hl 0 rfl) ?_
  refine lv_lshr (v := 0) hx hb dX0_fewestLiars_23 (by decide +kernel) ?_
  refine lv_lconst (v := 1) hx hb dX0_fewestLiars_24 (by decide) ?_
  refine lv_land hx hb dX0_fewestLiars_25 ?_
  refine k_l 0 (by decide +kernel) ?_
  refine lv_lconst (v := 0) hx hb dX0_fewestLiars_26 (by decide) ?_
  refine W.lcmp hx hb dX0_fewestLiars_27 ?_
  refine k_i 0 (by decide +kernel) ?_
  refine lv_if_eq (tgt := 43) hx hb dX0_fewestLiars_28 (by decide) (fun _ => ?_) (fun c_ => absurd (by decide +kernel) c_)
  refine lv_iinc (v := 37) (lv' := [(5, .int 37), (4, .int 0), (2, .long 1), (0, .ref a0), (1, .ref a1)]) hx hb dX0_fewestLiars_43 hl (k := 0) rfl (by decide +kernel) (by decide) rfl (fun ls hl => ?_)
  refine lv_goto (tgt := 13) hx hb dX0_fewestLiars_46 (by decide) ?_
  refine lv_iload hx hb dX0_fewestLiars_13 (lv_at hl 0 rfl) ?_
  refine lv_bipush (v := 64) hx hb dX0_fewestLiars_15 (by decide) ?_
  refine lv_icmp_ge (tgt := 49) hx hb dX0_fewestLiars_17 (by decide) (fun c_ => absurd c_ (by decide +kernel)) (fun _ => ?_)
  refine lv_lload_n hx hb dX0_fewestLiars_20 rfl (lv_at hl 2 rfl) ?_
  refine lv_iload hx hb dX0_fewestLiars_21 (lv_at hl 0 rfl) ?_
  refine lv_lshr (v := 0) hx hb dX0_fewestLiars_23 (by decide +kernel) ?_
  refine lv_lconst (v := 1) hx hb dX0_fewestLiars_24 (by decide) ?_
  refine lv_land hx hb dX0_fewestLiars_25 ?_
  refine k_l 0 (by decide +kernel) ?_
  refine lv_lconst (v := 0) hx hb dX0_fewestLiars_26 (by decide) ?_
  refine W.lcmp hx hb dX0_fewestLiars_27 ?_
  refine k_i 0 (by decide +kernel) ?_
  refine lv_if_eq (tgt := 43) hx hb dX0_fewestLiars_28 (by decide) (fun _ => ?_) (fun c_ => absurd (by decide +kernel) c_)
  refine lv_iinc (v := 38) (lv' := [(5, .int 38), (4, .int 0), (2, .long 1), (0, .ref a0), (1, .ref a1)]) hx hb dX0_fewestLiars_43 hl (k := 0) rfl (by decide +kernel) (by decide) rfl (fun ls hl => ?_)
  refine lv_goto (tgt := 13) hx hb dX0_fewestLiars_46 (by decide) ?_
  refine lv_iload hx hb dX0_fewestLiars_13 (lv_at hl 0 rfl) ?_
  refine lv_bipush (v := 64) hx hb dX0_fewestLiars_15 (by decide) ?_
  refine lv_icmp_ge (tgt := 49) hx hb dX0_fewestLiars_17 (by decide) (fun c_ => absurd c_ (by decide +kernel)) (fun _ => ?_)
  refine lv_lload_n hx hb dX0_fewestLiars_20 rfl (lv_at hl 2 rfl) ?_
  refine lv_iload hx hb dX0_fewestLiars_21 (lv_at hl 0 rfl) ?_
  refine lv_lshr (v := 0) hx hb dX0_fewestLiars_23 (by decide +kernel) ?_
  refine lv_lconst (v := 1) hx hb dX0_fewestLiars_24 (by decide) ?_
  refine lv_land hx hb dX0_fewestLiars_25 ?_
  refine k_l 0 (by decide +kernel) ?_
  refine lv_lconst (v := 0) hx hb dX0_fewestLiars_26 (by decide) ?_
  refine W.lcmp hx hb dX0_fewestLiars_27 ?_
  refine k_i 0 (by decide +kernel) ?_
  refine lv_if_eq (tgt := 43) hx hb dX0_fewestLiars_28 (by decide) (fun _ => ?_) (fun c_ => absurd (by decide +kernel) c_)
  refine lv_iinc (v := 39) (lv' := [(5, .int 39), (4, .int 0), (2, .long 1), (0, .ref a0), (1, .ref a1)]) hx hb dX0_fewestLiars_43 hl (k := 0) rfl (by decide +kernel) (by decide) rfl (fun ls hl => ?_)
  refine lv_goto (tgt := 13) hx hb dX0_fewestLiars_46 (by decide) ?_
  refine lv_iload hx hb dX0_fewestLiars_13 (lv_at hl 0 rfl) ?_
  refine lv_bipush (v := 64) hx hb dX0_fewestLiars_15 (by decide) ?_
  refine lv_icmp_ge (tgt := 49) hx hb dX0_fewestLiars_17 (by decide) (fun c_ => absurd c_ (by decide +kernel)) (fun _ => ?_)
  refine lv_lload_n hx hb dX0_fewestLiars_20 rfl (lv_at hl 2 rfl) ?_
  refine lv_iload hx hb dX0_fewestLiars_21 (lv_at hl 0 rfl) ?_
  refine lv_lshr (v := 0) hx hb dX0_fewestLiars_23 (by decide +kernel) ?_
  refine lv_lconst (v := 1) hx hb dX0_fewestLiars_24 (by decide) ?_
  refine lv_land hx hb dX0_fewestLiars_25 ?_
  refine k_l 0 (by decide +kernel) ?_
  refine lv_lconst (v := 0) hx hb dX0_fewestLiars_26 (by decide) ?_
  refine W.lcmp hx hb dX0_fewestLiars_27 ?_
  refine k_i 0 (by decide +kernel) ?_
  refine lv_if_eq (tgt := 43) hx hb dX0_fewestLiars_28 (by decide) (fun _ => ?_) (fun c_ => absurd (by decide +kernel) c_)
  refine lv_iinc (v := 40) (lv' := [(5, .int 40), (4, .int 0), (2, .long 1), (0, .ref a0), (1, .ref a1)]) hx hb dX0_fewestLiars_43 hl (k := 0) rfl (by decide +kernel) (by decide) rfl (fun ls hl => ?_)
  refine lv_goto (tgt := 13) hx hb dX0_fewestLiars_46 (by decide) ?_
  refine lv_iload hx hb dX0_fewestLiars_13 (lv_at hl 0 rfl) ?_
  refine lv_bipush (v := 64) hx hb dX0_fewestLiars_15 (by decide) ?_
  refine lv_icmp_ge (tgt := 49) hx hb dX0_fewestLiars_17 (by decide) (fun c_ => absurd c_ (by decide +kernel)) (fun _ => ?_)
  refine lv_lload_n hx hb dX0_fewestLiars_20 rfl (lv_at hl 2 rfl) ?_
  refine lv_iload hx hb dX0_fewestLiars_21 (lv_at hl 0 rfl) ?_
  refine lv_lshr (v := 0) hx hb dX0_fewestLiars_23 (by decide +kernel) ?_
  refine lv_lconst (v := 1) hx hb dX0_fewestLiars_24 (by decide) ?_
  refine lv_land hx hb dX0_fewestLiars_25 ?_
  refine k_l 0 (by decide +kernel) ?_
  refine lv_lconst (v := 0) hx hb dX0_fewestLiars_26 (by decide) ?_
  refine W.lcmp hx hb dX0_fewestLiars_27 ?_
  refine k_i 0 (by decide +kernel) ?_
  refine lv_if_eq (tgt := 43) hx hb dX0_fewestLiars_28 (by decide) (fun _ => ?_) (fun c_ => absurd (by decide +kernel) c_)
  refine lv_iinc (v := 41) (lv' := [(5, .int 41), (4, .int 0), (2, .long 1), (0, .ref a0), (1, .ref a1)]) hx hb dX0_fewestLiars_43 hl (k := 0) rfl (by decide +kernel) (by decide) rfl (fun ls hl => ?_)
  refine lv_goto (tgt := 13) hx hb dX0_fewestLiars_46 (by decide) ?_
  refine lv_iload hx hb dX0_fewestLiars_13 (lv_at hl 0 rfl) ?_
  refine lv_bipush (v := 64) hx hb dX0_fewestLiars_15 (by decide) ?_
  refine lv_icmp_ge (tgt := 49) hx hb dX0_fewestLiars_17 (by decide) (fun c_ => absurd c_ (by decide +kernel)) (fun _ => ?_)
  refine lv_lload_n hx hb dX0_fewestLiars_20 rfl (lv_at hl 2 rfl) ?_
  refine lv_iload hx hb dX0_fewestLiars_21 (lv_at hl 0 rfl) ?_
  refine lv_lshr (v := 0) hx hb dX0_fewestLiars_23 (by decide +kernel) ?_
  refine lv_lconst (v := 1) hx hb dX0_fewestLiars_24 (by decide) ?_
  refine lv_land hx hb dX0_fewestLiars_25 ?_
  refine k_l 0 (by decide +kernel) ?_
  refine lv_lconst (v := 0) hx hb dX0_fewestLiars_26 (by decide) ?_
  refine W.lcmp hx hb dX0_fewestLiars_27 ?_
  refine k_i 0 (by decide +kernel) ?_
  refine lv_if_eq (tgt := 43) hx hb dX0_fewestLiars_28 (by decide) (fun _ => ?_) (fun c_ => absurd (by decide +kernel) c_)
  refine lv_iinc (v := 42) (lv' := [(5, .int 42), (4, .int 0), (2, .long 1), (0, .ref a0), (1, .ref a1)]) hx hb dX0_fewestLiars_43 hl (k := 0) rfl (by decide +kernel) (by decide) rfl (fun ls hl => ?_)
  refine lv_goto (tgt := 13) hx hb dX0_fewestLiars_46 (by decide) ?_
  refine lv_iload hx hb dX0_fewestLiars_13 (lv_at hl 0 rfl) ?_
  refine lv_bipush (v := 64) hx hb dX0_fewestLiars_15 (by decide) ?_
  refine lv_icmp_ge (tgt := 49) hx hb dX0_fewestLiars_17 (by decide) (fun c_ => absurd c_ (by decide +kernel)) (fun _ => ?_)
  refine lv_lload_n hx hb dX0_fewestLiars_20 rfl (lv_at hl 2 rfl) ?_
  refine lv_iload hx hb dX0_fewestLiars_21 (lv_at hl 0 rfl) ?_
  refine lv_lshr (v := 0) hx hb dX0_fewestLiars_23 (by decide +kernel) ?_
  refine lv_lconst (v := 1) hx hb dX0_fewestLiars_24 (by decide) ?_
  refine lv_land hx hb dX0_fewestLiars_25 ?_
  refine k_l 0 (by decide +kernel) ?_
  refine lv_lconst (v := 0) hx hb dX0_fewestLiars_26 (by decide) ?_
  refine W.lcmp hx hb dX0_fewestLiars_27 ?_
  refine k_i 0 (by decide +kernel) ?_
  refine lv_if_eq (tgt := 43) hx hb dX0_fewestLiars_28 (by decide) (fun _ => ?_) (fun c_ => absurd (by decide +kernel) c_)
  refine lv_iinc (v := 43) (lv' := [(5, .int 43), (4, .int 0), (2, .long 1), (0, .ref a0), (1, .ref a1)]) hx hb dX0_fewestLiars_43 hl (k := 0) rfl (by decide +kernel) (by decide) rfl (fun ls hl => ?_)
  refine lv_goto (tgt := 13) hx hb dX0_fewestLiars_46 (by decide) ?_
  refine lv_iload hx hb dX0_fewestLiars_13 (lv_at hl 0 rfl) ?_
  refine lv_bipush (v := 64) hx hb dX0_fewestLiars_15 (by decide) ?_
  refine lv_icmp_ge (tgt := 49) hx hb dX0_fewestLiars_17 (by decide) (fun c_ => absurd c_ (by decide +kernel)) (fun _ => ?_)
  refine lv_lload_n hx hb dX0_fewestLiars_20 rfl (lv_at hl 2 rfl) ?_
  refine lv_iload hx hb dX0_fewestLiars_21 (lv_at hl 0 rfl) ?_
  refine lv_lshr (v := 0) hx hb dX0_fewestLiars_23 (by decide +kernel) ?_
  refine lv_lconst (v := 1) hx hb dX0_fewestLiars_24 (by decide) ?_
  refine lv_land hx hb dX0_fewestLiars_25 ?_
  refine k_l 0 (by decide +kernel) ?_
  refine lv_lconst (v := 0) hx hb dX0_fewestLiars_26 (by decide) ?_
  refine W.lcmp hx hb dX0_fewestLiars_27 ?_
  refine k_i 0 (by decide +kernel) ?_
  refine lv_if_eq (tgt := 43) hx hb dX0_fewestLiars_28 (by decide) (fun _ => ?_) (fun c_ => absurd (by decide +kernel) c_)
  refine lv_iinc (v := 44) (lv' := [(5, .int 44), (4, .int 0), (2, .long 1), (0, .ref a0), (1, .ref a1)]) hx hb dX0_fewestLiars_43 hl (k := 0) rfl (by decide +kernel) (by decide) rfl (fun ls hl => ?_)
  refine lv_goto (tgt := 13) hx hb dX0_fewestLiars_46 (by decide) ?_
  refine lv_iload hx hb dX0_fewestLiars_13 (lv_at hl 0 rfl) ?_
  refine lv_bipush (v := 64) hx hb dX0_fewestLiars_15 (by decide) ?_
  refine lv_icmp_ge (tgt := 49) hx hb dX0_fewestLiars_17 (by decide) (fun c_ => absurd c_ (by decide +kernel)) (fun _ => ?_)
  refine lv_lload_n hx hb dX0_fewestLiars_20 rfl (lv_at hl 2 rfl) ?_
  refine lv_iload hx hb dX0_fewestLiars_21 (lv_at hl 0 rfl) ?_
  refine lv_lshr (v := 0) hx hb dX0_fewestLiars_23 (by decide +kernel) ?_
  refine lv_lconst (v := 1) hx hb dX0_fewestLiars_24 (by decide) ?_
  refine lv_land hx hb dX0_fewestLiars_25 ?_
  refine k_l 0 (by decide +kernel) ?_
  refine lv_lconst (v := 0) hx hb dX0_fewestLiars_26 (by decide) ?_
  refine W.lcmp hx hb dX0_fewestLiars_27 ?_
  refine k_i 0 (by decide +kernel) ?_
  refine lv_if_eq (tgt := 43) hx hb dX0_fewestLiars_28 (by decide) (fun _ => ?_) (fun c_ => absurd (by decide +kernel) c_)
  refine lv_iinc (v := 45) (lv' := [(5, .int 45), (4, .int 0), (2, .long 1), (0, .ref a0), (1, .ref a1)]) hx hb dX0_fewestLiars_43 hl (k := 0) rfl (by decide +kernel) (by decide) rfl (fun ls hl => ?_)
  refine lv_goto (tgt := 13) hx hb dX0_fewestLiars_46 (by decide) ?_
  refine lv_iload hx hb dX0_fewestLiars_13 (lv_at hl 0 rfl) ?_
  refine lv_bipush (v := 64) hx hb dX0_fewestLiars_15 (by decide) ?_
  refine lv_icmp_ge (tgt := 49) hx hb dX0_fewestLiars_17 (by decide) (fun c_ => absurd c_ (by decide +kernel)) (fun _ => ?_)
  refine lv_lload_n hx hb dX0_fewestLiars_20 rfl (lv_at hl 2 rfl) ?_
  refine lv_iload hx hb dX0_fewestLiars_21 (lv_at hl 0 rfl) ?_
  refine lv_lshr (v := 0) hx hb dX0_fewestLiars_23 (by decide +kernel) ?_
  refine lv_lconst (v := 1) hx hb dX0_fewestLiars_24 (by decide) ?_
  refine lv_land hx hb dX0_fewestLiars_25 ?_
  refine k_l 0 (by decide +kernel) ?_
  refine lv_lconst (v := 0) hx hb dX0_fewestLiars_26 (by decide) ?_
  refine W.lcmp hx hb dX0_fewestLiars_27 ?_
  refine k_i 0 (by decide +kernel) ?_
  refine lv_if_eq (tgt := 43) hx hb dX0_fewestLiars_28 (by decide) (fun _ => ?_) (fun c_ => absurd (by decide +kernel) c_)
  refine lv_iinc (v := 46) (lv' := [(5, .int 46), (4, .int 0), (2, .long 1), (0, .ref a0), (1, .ref a1)]) hx hb dX0_fewestLiars_43 hl (k := 0) rfl (by decide +kernel) (by decide) rfl (fun ls hl => ?_)
  refine lv_goto (tgt := 13) hx hb dX0_fewestLiars_46 (by decide) ?_
  refine lv_iload hx hb dX0_fewestLiars_13 (lv_at hl 0 rfl) ?_
  refine lv_bipush (v := 64) hx hb dX0_fewestLiars_15 (by decide) ?_
  refine lv_icmp_ge (tgt := 49) hx hb dX0_fewestLiars_17 (by decide) (fun c_ => absurd c_ (by decide +kernel)) (fun _ => ?_)
  refine lv_lload_n hx hb dX0_fewestLiars_20 rfl (lv_at hl 2 rfl) ?_
  refine lv_iload hx hb dX0_fewestLiars_21 (lv_at hl 0 rfl) ?_
  refine lv_lshr (v := 0) hx hb dX0_fewestLiars_23 (by decide +kernel) ?_
  refine lv_lconst (v := 1) hx hb dX0_fewestLiars_24 (by decide) ?_
  refine lv_land hx hb dX0_fewestLiars_25 ?_
  refine k_l 0 (by decide +kernel) ?_
  refine lv_lconst (v := 0) hx hb dX0_fewestLiars_26 (by decide) ?_
  refine W.lcmp hx hb dX0_fewestLiars_27 ?_
  refine k_i 0 (by decide +kernel) ?_
  refine lv_if_eq (tgt := 43) hx hb dX0_fewestLiars_28 (by decide) (fun _ => ?_) (fun c_ => absurd (by decide +kernel) c_)
  refine lv_iinc (v := 47) (lv' := [(5, .int 47), (4, .int 0), (2, .long 1), (0, .ref a0), (1, .ref a1)]) hx hb dX0_fewestLiars_43 hl (k := 0) rfl (by decide +kernel) (by decide) rfl (fun ls hl => ?_)
  refine lv_goto (tgt := 13) hx hb dX0_fewestLiars_46 (by decide) ?_
  refine lv_iload hx hb dX0_fewestLiars_13 (lv_at hl 0 rfl) ?_
  refine lv_bipush (v := 64) hx hb dX0_fewestLiars_15 (by decide) ?_
  refine lv_icmp_ge (tgt := 49) hx hb dX0_fewestLiars_17 (by decide) (fun c_ => absurd c_ (by decide +kernel)) (fun _ => ?_)
  refine lv_lload_n hx hb dX0_fewestLiars_20 rfl (lv_at hl 2 rfl) ?_
  refine lv_iload hx hb dX0_fewestLiars_21 (lv_at hl 0 rfl) ?_
  refine lv_lshr (v := 0) hx hb dX0_fewestLiars_23 (by decide +kernel) ?_
  refine lv_lconst (v := 1) hx hb dX0_fewestLiars_24 (by decide) ?_
  refine lv_land hx hb dX0_fewestLiars_25 ?_
  refine k_l 0 (by decide +kernel) ?_
  refine lv_lconst (v := 0) hx hb dX0_fewestLiars_26 (by decide) ?_
  refine W.lcmp hx hb dX0_fewestLiars_27 ?_
  refine k_i 0 (by decide +kernel) ?_
  refine lv_if_eq (tgt := 43) hx hb dX0_fewestLiars_28 (by decide) (fun _ => ?_) (fun c_ => absurd (by decide +kernel) c_)
  refine lv_iinc (v := 48) (lv' := [(5, .int 48), (4, .int 0), (2, .long 1), (0, .ref a0), (1, .ref a1)]) hx hb dX0_fewestLiars_43 hl (k := 0) rfl (by decide +kernel) (by decide) rfl (fun ls hl => ?_)
  refine lv_goto (tgt := 13) hx hb dX0_fewestLiars_46 (by decide) ?_
  refine lv_iload hx hb dX0_fewestLiars_13 (lv_at hl 0 rfl) ?_
  refine lv_bipush (v := 64) hx hb dX0_fewestLiars_15 (by decide) ?_
  refine lv_icmp_ge (tgt := 49) hx hb dX0_fewestLiars_17 (by decide) (fun c_ => absurd c_ (by decide +kernel)) (fun _ => ?_)
  refine lv_lload_n hx hb dX0_fewestLiars_20 rfl (lv_at hl 2 rfl) ?_
  refine lv_iload hx hb dX0_fewestLiars_21 (lv_at hl 0 rfl) ?_
  refine lv_lshr (v := 0) hx hb dX0_fewestLiars_23 (by decide +kernel) ?_
  refine lv_lconst (v := 1) hx hb dX0_fewestLiars_24 (by decide) ?_
  refine lv_land hx hb dX0_fewestLiars_25 ?_
  refine k_l 0 (by decide +kernel) ?_
  refine lv_lconst (v := 0) hx hb dX0_fewestLiars_26 (by decide) ?_
  refine W.lcmp hx hb dX0_fewestLiars_27 ?_
  refine k_i 0 (by decide +kernel) ?_
  refine lv_if_eq (tgt := 43) hx hb dX0_fewestLiars_28 (by decide) (fun _ => ?_) (fun c_ => absurd (by decide +kernel) c_)
  refine lv_iinc (v := 49) (lv' := [(5, .int 49), (4, .int 0), (2, .long 1), (0, .ref a0), (1, .ref a1)]) hx hb dX0_fewestLiars_43 hl (k := 0) rfl (by decide +kernel) (by decide) rfl (fun ls hl => ?_)
  refine lv_goto (tgt := 13) hx hb dX0_fewestLiars_46 (by decide) ?_
  refine lv_iload hx hb dX0_fewestLiars_13 (lv_at hl 0 rfl) ?_
  refine lv_bipush (v := 64) hx hb dX0_fewestLiars_15 (by decide) ?_
  refine lv_icmp_ge (tgt := 49) hx hb dX0_fewestLiars_17 (by decide) (fun c_ => absurd c_ (by decide +kernel)) (fun _ => ?_)
  refine lv_lload_n hx hb dX0_fewestLiars_20 rfl (lv_at hl 2 rfl) ?_
  refine lv_iload hx hb dX0_fewestLiars_21 (lv_at hl 0 rfl) ?_
  refine lv_lshr (v := 0) hx hb dX0_fewestLiars_23 (by decide +kernel) ?_
  refine lv_lconst (v := 1) hx hb dX0_fewestLiars_24 (by decide) ?_
  refine lv_land hx hb dX0_fewestLiars_25 ?_
  refine k_l 0 (by decide +kernel) ?_
  refine lv_lconst (v := 0) hx hb dX0_fewestLiars_26 (by decide) ?_
  refine W.lcmp hx hb dX0_fewestLiars_27 ?_
  refine k_i 0 (by decide +kernel) ?_
  refine lv_if_eq (tgt := 43) hx hb dX0_fewestLiars_28 (by decide) (fun _ => ?_) (fun c_ => absurd (by decide +kernel) c_)
  refine lv_iinc (v := 50) (lv' := [(5, .int 50), (4, .int 0), (2, .long 1), (0, .ref a0), (1, .ref a1)]) hx hb dX0_fewestLiars_43 hl (k := 0) rfl (by decide +kernel) (by decide) rfl (fun ls hl => ?_)
  refine lv_goto (tgt := 13) hx hb dX0_fewestLiars_46 (by decide) ?_
  refine lv_iload hx hb dX0_fewestLiars_13 (lv_at hl 0 rfl) ?_
  refine lv_bipush (v := 64) hx hb dX0_fewestLiars_15 (by decide) ?_
  refine lv_icmp_ge (tgt := 49) hx hb dX0_fewestLiars_17 (by decide) (fun c_ => absurd c_ (by decide +kernel)) (fun _ => ?_)
  refine lv_lload_n hx hb dX0_fewestLiars_20 rfl (lv_at hl 2 rfl) ?_
  refine lv_iload hx hb dX0_fewestLiars_21 (lv_at hl 0 rfl) ?_
  refine lv_lshr (v := 0) hx hb dX0_fewestLiars_23 (by decide +kernel) ?_
  refine lv_lconst (v := 1) hx hb dX0_fewestLiars_24 (by decide) ?_
  refine lv_land hx hb dX0_fewestLiars_25 ?_
  refine k_l 0 (by decide +kernel) ?_
  refine lv_lconst (v := 0) hx hb dX0_fewestLiars_26 (by decide) ?_
  refine W.lcmp hx hb dX0_fewestLiars_27 ?_
  refine k_i 0 (by decide +kernel) ?_
  refine lv_if_eq (tgt := 43) hx hb dX0_fewestLiars_28 (by decide) (fun _ => ?_) (fun c_ => absurd (by decide +kernel) c_)
  refine lv_iinc (v := 51) (lv' := [(5, .int 51), (4, .int 0), (2, .long 1), (0, .ref a0), (1, .ref a1)]) hx hb dX0_fewestLiars_43 hl (k := 0) rfl (by decide +kernel) (by decide) rfl (fun ls hl => ?_)
  refine lv_goto (tgt := 13) hx hb dX0_fewestLiars_46 (by decide) ?_
  refine lv_iload hx hb dX0_fewestLiars_13 (lv_at hl 0 rfl) ?_
  refine lv_bipush (v := 64) hx hb dX0_fewestLiars_15 (by decide) ?_
  refine lv_icmp_ge (tgt := 49) hx hb dX0_fewestLiars_17 (by decide) (fun c_ => absurd c_ (by decide +kernel)) (fun _ => ?_)
  refine lv_lload_n hx hb dX0_fewestLiars_20 rfl (lv_at hl 2 rfl) ?_
  refine lv_iload hx hb dX0_fewestLiars_21 (lv_at hl 0 rfl) ?_
  refine lv_lshr (v := 0) hx hb dX0_fewestLiars_23 (by decide +kernel) ?_
  refine lv_lconst (v := 1) hx hb dX0_fewestLiars_24 (by decide) ?_
  refine lv_land hx hb dX0_fewestLiars_25 ?_
  refine k_l 0 (by decide +kernel) ?_
  refine lv_lconst (v := 0) hx hb dX0_fewestLiars_26 (by decide) ?_
  refine W.lcmp hx hb dX0_fewestLiars_27 ?_
  refine k_i 0 (by decide +kernel) ?_
  refine lv_if_eq (tgt := 43) hx hb dX0_fewestLiars_28 (by decide) (fun _ => ?_) (fun c_ => absurd (by decide +kernel) c_)
  refine lv_iinc (v := 52) (lv' := [(5, .int 52), (4, .int 0), (2, .long 1), (0, .ref a0), (1, .ref a1)]) hx hb dX0_fewestLiars_43 hl (k := 0) rfl (by decide +kernel) (by decide) rfl (fun ls hl => ?_)
  refine lv_goto (tgt := 13) hx hb dX0_fewestLiars_46 (by decide) ?_
  refine lv_iload hx hb dX0_fewestLiars_13 (lv_at hl 0 rfl) ?_
  refine lv_bipush (v := 64) hx hb dX0_fewestLiars_15 (by decide) ?_
  refine lv_icmp_ge (tgt := 49) hx hb dX0_fewestLiars_17 (by decide) (fun c_ => absurd c_ (by decide +kernel)) (fun _ => ?_)
  refine lv_lload_n hx hb dX0_fewestLiars_20 rfl (lv_at hl 2 rfl) ?_
  refine lv_iload hx hb dX0_fewestLiars_21 (lv_at hl 0 rfl) ?_
  refine lv_lshr (v := 0) hx hb dX0_fewestLiars_23 (by decide +kernel) ?_
  refine lv_lconst (v := 1) hx hb dX0_fewestLiars_24 (by decide) ?_
  refine lv_land hx hb dX0_fewestLiars_25 ?_
  refine k_l 0 (by decide +kernel) ?_
  refine lv_lconst (v := 0) hx hb dX0_fewestLiars_26 (by decide) ?_
  refine W.lcmp hx hb dX0_fewestLiars_27 ?_
  refine k_i 0 (by decide +kernel) ?_
  refine lv_if_eq (tgt := 43) hx hb dX0_fewestLiars_28 (by decide) (fun _ => ?_) (fun c_ => absurd (by decide +kernel) c_)
  refine lv_iinc (v := 53) (lv' := [(5, .int 53), (4, .int 0), (2, .long 1), (0, .ref a0), (1, .ref a1)]) hx hb dX0_fewestLiars_43 hl (k := 0) rfl (by decide +kernel) (by decide) rfl (fun ls hl => ?_)
  refine lv_goto (tgt := 13) hx hb dX0_fewestLiars_46 (by decide) ?_
  refine lv_iload hx hb dX0_fewestLiars_13 (lv_at hl 0 rfl) ?_
  refine lv_bipush (v := 64) hx hb dX0_fewestLiars_15 (by decide) ?_
  refine lv_icmp_ge (tgt := 49) hx hb dX0_fewestLiars_17 (by decide) (fun c_ => absurd c_ (by decide +kernel)) (fun _ => ?_)
  refine lv_lload_n hx hb dX0_fewestLiars_20 rfl (lv_at hl 2 rfl) ?_
  refine lv_iload hx hb dX0_fewestLiars_21 (lv_at hl 0 rfl) ?_
  refine lv_lshr (v := 0) hx hb dX0_fewestLiars_23 (by decide +kernel) ?_
  refine lv_lconst (v := 1) hx hb dX0_fewestLiars_24 (by decide) ?_
  refine lv_land hx hb dX0_fewestLiars_25 ?_
  refine k_l 0 (by decide +kernel) ?_
  refine lv_lconst (v := 0) hx hb dX0_fewestLiars_26 (by decide) ?_
  refine W.lcmp hx hb dX0_fewestLiars_27 ?_
  refine k_i 0 (by decide +kernel) ?_
  refine lv_if_eq (tgt := 43) hx hb dX0_fewestLiars_28 (by decide) (fun _ => ?_) (fun c_ => absurd (by decide +kernel) c_)
  refine lv_iinc (v := 54) (lv' := [(5, .int 54), (4, .int 0), (2, .long 1), (0, .ref a0), (1, .ref a1)]) hx hb dX0_fewestLiars_43 hl (k := 0) rfl (by decide +kernel) (by decide) rfl (fun ls hl => ?_)
  refine lv_goto (tgt := 13) hx hb dX0_fewestLiars_46 (by decide) ?_
  refine lv_iload hx hb dX0_fewestLiars_13 (lv_at hl 0 rfl) ?_
  refine lv_bipush (v := 64) hx hb dX0_fewestLiars_15 (by decide) ?_
  refine lv_icmp_ge (tgt := 49) hx hb dX0_fewestLiars_17 (by decide) (fun c_ => absurd c_ (by decide +kernel)) (fun _ => ?_)
  refine lv_lload_n hx hb dX0_fewestLiars_20 rfl (lv_at hl 2 rfl) ?_
  refine lv_iload hx hb dX0_fewestLiars_21 (lv_at hl 0 rfl) ?_
  refine lv_lshr (v := 0) hx hb dX0_fewestLiars_23 (by decide +kernel) ?_
  refine lv_lconst (v := 1) hx hb dX0_fewestLiars_24 (by decide) ?_
  refine lv_land hx hb dX0_fewestLiars_25 ?_
  refine k_l 0 (by decide +kernel) ?_
  refine lv_lconst (v := 0) hx hb dX0_fewestLiars_26 (by decide) ?_
  refine W.lcmp hx hb dX0_fewestLiars_27 ?_
  refine k_i 0 (by decide +kernel) ?_
  refine lv_if_eq (tgt := 43) hx hb dX0_fewestLiars_28 (by decide) (fun _ => ?_) (fun c_ => absurd (by decide +kernel) c_)
  refine lv_iinc (v := 55) (lv' := [(5, .int 55), (4, .int 0), (2, .long 1), (0, .ref a0), (1, .ref a1)]) hx hb dX0_fewestLiars_43 hl (k := 0) rfl (by decide +kernel) (by decide) rfl (fun ls hl => ?_)
  refine lv_goto (tgt := 13) hx hb dX0_fewestLiars_46 (by decide) ?_
  refine lv_iload hx hb dX0_fewestLiars_13 (lv_at hl 0 rfl) ?_
  refine lv_bipush (v := 64) hx hb dX0_fewestLiars_15 (by decide) ?_
  refine lv_icmp_ge (tgt := 49) hx hb dX0_fewestLiars_17 (by decide) (fun c_ => absurd c_ (by decide +kernel)) (fun _ => ?_)
  refine lv_lload_n hx hb dX0_fewestLiars_20 rfl (lv_at hl 2 rfl) ?_
  refine lv_iload hx hb dX0_fewestLiars_21 (lv_at hl 0 rfl) ?_
  refine lv_lshr (v := 0) hx hb dX0_fewestLiars_23 (by decide +kernel) ?_
  refine lv_lconst (v := 1) hx hb dX0_fewestLiars_24 (by decide) ?_
  refine lv_land hx hb dX0_fewestLiars_25 ?_
  refine k_l 0 (by decide +kernel) ?_
  refine lv_lconst (v := 0) hx hb dX0_fewestLiars_26 (by decide) ?_
  refine W.lcmp hx hb dX0_fewestLiars_27 ?_
  refine k_i 0 (by decide +kernel) ?_
  refine lv_if_eq (tgt := 43) hx hb dX0_fewestLiars_28 (by decide) (fun _ => ?_) (fun c_ => absurd (by decide +kernel) c_)
  refine lv_iinc (v := 56) (lv' := [(5, .int 56), (4, .int 0), (2, .long 1), (0, .ref a0), (1, .ref a1)]) hx hb dX0_fewestLiars_43 hl (k := 0) rfl (by decide +kernel) (by decide) rfl (fun ls hl => ?_)
  refine lv_goto (tgt := 13) hx hb dX0_fewestLiars_46 (by decide) ?_
  refine lv_iload hx hb dX0_fewestLiars_13 (lv_at hl 0 rfl) ?_
  refine lv_bipush (v := 64) hx hb dX0_fewestLiars_15 (by decide) ?_
  refine lv_icmp_ge (tgt := 49) hx hb dX0_fewestLiars_17 (by decide) (fun c_ => absurd c_ (by decide +kernel)) (fun _ => ?_)
  refine lv_lload_n hx hb dX0_fewestLiars_20 rfl (lv_at hl 2 rfl) ?_
  refine lv_iload hx hb dX0_fewestLiars_21 (lv_at hl 0 rfl) ?_
  refine lv_lshr (v := 0) hx hb dX0_fewestLiars_23 (by decide +kernel) ?_
  refine lv_lconst (v := 1) hx hb dX0_fewestLiars_24 (by decide) ?_
  refine lv_land hx hb dX0_fewestLiars_25 ?_
  refine k_l 0 (by decide +kernel) ?_
  refine lv_lconst (v := 0) hx hb dX0_fewestLiars_26 (by decide) ?_
  refine W.lcmp hx hb dX0_fewestLiars_27 ?_
  refine k_i 0 (by decide +kernel) ?_
  refine lv_if_eq (tgt := 43) hx hb dX0_fewestLiars_28 (by decide) (fun _ => ?_) (fun c_ => absurd (by decide +kernel) c_)
  refine lv_iinc (v := 57) (lv' := [(5, .int 57), (4, .int 0), (2, .long 1), (0, .ref a0), (1, .ref a1)]) hx hb dX0_fewestLiars_43 hl (k := 0) rfl (by decide +kernel) (by decide) rfl (fun ls hl => ?_)
  refine lv_goto (tgt := 13) hx hb dX0_fewestLiars_46 (by decide) ?_
  refine lv_iload hx hb dX0_fewestLiars_13 (lv_at hl 0 rfl) ?_
  refine lv_bipush (v := 64) hx hb dX0_fewestLiars_15 (by decide) ?_
  refine lv_icmp_ge (tgt := 49) hx hb dX0_fewestLiars_17 (by decide) (fun c_ => absurd c_ (by decide +kernel)) (fun _ => ?_)
  refine lv_lload_n hx hb dX0_fewestLiars_20 rfl (lv_at hl 2 rfl) ?_
  refine lv_iload hx hb dX0_fewestLiars_21 (lv_at hl 0 rfl) ?_
  refine lv_lshr (v := 0) hx hb dX0_fewestLiars_23 (by decide +kernel) ?_
  refine lv_lconst (v := 1) hx hb dX0_fewestLiars_24 (by decide) ?_
  refine lv_land hx hb dX0_fewestLiars_25 ?_
  refine k_l 0 (by decide +kernel) ?_
  refine lv_lconst (v := 0) hx hb dX0_fewestLiars_26 (by decide) ?_
  refine W.lcmp hx hb dX0_fewestLiars_27 ?_
  refine k_i 0 (by decide +kernel) ?_
  refine lv_if_eq (tgt := 43) hx hb dX0_fewestLiars_28 (by decide) (fun _ => ?_) (fun c_ => absurd (by decide +kernel) c_)
  refine lv_iinc (v := 58) (lv' := [(5, .int 58), (4, .int 0), (2, .long 1), (0, .ref a0), (1, .ref a1)]) hx hb dX0_fewestLiars_43 hl (k := 0) rfl (by decide +kernel) (by decide) rfl (fun ls hl => ?_)
  refine lv_goto (tgt := 13) hx hb dX0_fewestLiars_46 (by decide) ?_
  refine lv_iload hx hb dX0_fewestLiars_13 (lv_at hl 0 rfl) ?_
  refine lv_bipush (v := 64) hx hb dX0_fewestLiars_15 (by decide) ?_
  refine lv_icmp_ge (tgt := 49) hx hb dX0_fewestLiars_17 (by decide) (fun c_ => absurd c_ (by decide +kernel)) (fun _ => ?_)
  refine lv_lload_n hx hb dX0_fewestLiars_20 rfl (lv_at hl 2 rfl) ?_
  refine lv_iload hx hb dX0_fewestLiars_21 (lv_at hl 0 rfl) ?_
  refine lv_lshr (v := 0) hx hb dX0_fewestLiars_23 (by decide +kernel) ?_
  refine lv_lconst (v := 1) hx hb dX0_fewestLiars_24 (by decide) ?_
  refine lv_land hx hb dX0_fewestLiars_25 ?_
  refine k_l 0 (by decide +kernel) ?_
  refine lv_lconst (v := 0) hx hb dX0_fewestLiars_26 (by decide) ?_
  refine W.lcmp hx hb dX0_fewestLiars_27 ?_
  refine k_i 0 (by decide +kernel) ?_
  refine lv_if_eq (tgt := 43) hx hb dX0_fewestLiars_28 (by decide) (fun _ => ?_) (fun c_ => absurd (by decide +kernel) c_)
  refine lv_iinc (v := 59) (lv' := [(5, .int 59), (4, .int 0), (2, .long 1), (0, .ref a0), (1, .ref a1)]) hx hb dX0_fewestLiars_43 hl (k := 0) rfl (by decide +kernel) (by decide) rfl (fun ls hl => ?_)
  refine lv_goto (tgt := 13) hx hb dX0_fewestLiars_46 (by decide) ?_
  refine lv_iload hx hb dX0_fewestLiars_13 (lv_at hl 0 rfl) ?_
  refine lv_bipush (v := 64) hx hb dX0_fewestLiars_15 (by decide) ?_
  refine lv_icmp_ge (tgt := 49) hx hb dX0_fewestLiars_17 (by decide) (fun c_ => absurd c_ (by decide +kernel)) (fun _ => ?_)
  refine lv_lload_n hx hb dX0_fewestLiars_20 rfl (lv_at hl 2 rfl) ?_
  refine lv_iload hx hb dX0_fewestLiars_21 (lv_at hl 0 rfl) ?_
  refine lv_lshr (v := 0) hx hb dX0_fewestLiars_23 (by decide +kernel) ?_
  refine lv_lconst (v := 1) hx hb dX0_fewestLiars_24 (by decide) ?_
  refine lv_land hx hb dX0_fewestLiars_25 ?_
  refine k_l 0 (by decide +kernel) ?_
  refine lv_lconst (v := 0) hx hb dX0_fewestLiars_26 (by decide) ?_
  refine W.lcmp hx hb dX0_fewestLiars_27 ?_
  refine k_i 0 (by decide +kernel) ?_
  refine lv_if_eq (tgt := 43) hx hb dX0_fewestLiars_28 (by decide) (fun _ => ?_) (fun c_ => absurd (by decide +kernel) c_)
  refine lv_iinc (v := 60) (lv' := [(5, .int 60), (4, .int 0), (2, .long 1), (0, .ref a0), (1, .ref a1)]) hx hb dX0_fewestLiars_43 hl (k := 0) rfl (by decide +kernel) (by decide) rfl (fun ls hl => ?_)
  refine lv_goto (tgt := 13) hx hb dX0_fewestLiars_46 (by decide) ?_
  refine lv_iload hx hb dX0_fewestLiars_13 (lv_at hl 0 rfl) ?_
  refine lv_bipush (v := 64) hx hb dX0_fewestLiars_15 (by decide) ?_
  refine lv_icmp_ge (tgt := 49) hx hb dX0_fewestLiars_17 (by decide) (fun c_ => absurd c_ (by decide +kernel)) (fun _ => ?_)
  refine lv_lload_n hx hb dX0_fewestLiars_20 rfl (lv_at hl 2 rfl) ?_
  refine lv_iload hx hb dX0_fewestLiars_21 (lv_at hl 0 rfl) ?_
  refine lv_lshr (v := 0) hx hb dX0_fewestLiars_23 (by decide +kernel) ?_
  refine lv_lconst (v := 1) hx hb dX0_fewestLiars_24 (by decide) ?_
  refine lv_land hx hb dX0_fewestLiars_25 ?_
  refine k_l 0 (by decide +kernel) ?_
  refine lv_lconst (v := 0) hx hb dX0_fewestLiars_26 (by decide) ?_
  refine W.lcmp hx hb dX0_fewestLiars_27 ?_
  refine k_i 0 (by decide +kernel) ?_
  refine lv_if_eq (tgt := 43) hx hb dX0_fewestLiars_28 (by decide) (fun _ => ?_) (fun c_ => absurd (by decide +kernel) c_)
  refine lv_iinc (v := 61) (lv' := [(5, .int 61), (4, .int 0), (2, .long 1), (0, .ref a0), (1, .ref a1)]) hx hb dX0_fewestLiars_43 hl (k := 0) rfl (by decide +kernel) (by decide) rfl (fun ls hl => ?_)
  refine lv_goto (tgt := 13) hx hb dX0_fewestLiars_46 (by decide) ?_
  refine lv_iload hx hb dX0_fewestLiars_13 (lv_at hl 0 rfl) ?_
  refine lv_bipush (v := 64) hx hb dX0_fewestLiars_15 (by decide) ?_
  refine lv_icmp_ge (tgt := 49) hx hb dX0_fewestLiars_17 (by decide) (fun c_ => absurd c_ (by decide +kernel)) (fun _ => ?_)
  refine lv_lload_n hx hb dX0_fewestLiars_20 rfl (lv_at hl 2 rfl) ?_
  refine lv_iload hx hb dX0_fewestLiars_21 (lv_at hl 0 rfl) ?_
  refine lv_lshr (v := 0) hx hb dX0_fewestLiars_23 (by decide +kernel) ?_
  refine lv_lconst (v := 1) hx hb dX0_fewestLiars_24 (by decide) ?_
  refine lv_land hx hb dX0_fewestLiars_25 ?_
  refine k_l 0 (by decide +kernel) ?_
  refine lv_lconst (v := 0) hx hb dX0_fewestLiars_26 (by decide) ?_
  refine W.lcmp hx hb dX0_fewestLiars_27 ?_
  refine k_i 0 (by decide +kernel) ?_
  refine lv_if_eq (tgt := 43) hx hb dX0_fewestLiars_28 (by decide) (fun _ => ?_) (fun c_ => absurd (by decide +kernel) c_)
  refine lv_iinc (v := 62) (lv' := [(5, .int 62), (4, .int 0), (2, .long 1), (0, .ref a0), (1, .ref a1)]) hx hb dX0_fewestLiars_43 hl (k := 0) rfl (by decide +kernel) (by decide) rfl (fun ls hl => ?_)
  refine lv_goto (tgt := 13) hx hb dX0_fewestLiars_46 (by decide) ?_
  refine lv_iload hx hb dX0_fewestLiars_13 (lv_at hl 0 rfl) ?_
  refine lv_bipush (v := 64) hx hb dX0_fewestLiars_15 (by decide) ?_
  refine lv_icmp_ge (tgt := 49) hx hb dX0_fewestLiars_17 (by decide) (fun c_ => absurd c_ (by decide +kernel)) (fun _ => ?_)
  refine lv_lload_n hx hb dX0_fewestLiars_20 rfl (lv_at hl 2 rfl) ?_
  refine lv_iload hx hb dX0_fewestLiars_21 (lv_at hl 0 rfl) ?_
  refine lv_lshr (v := 0) hx hb dX0_fewestLiars_23 (by decide +kernel) ?_
  refine lv_lconst (v := 1) hx hb dX0_fewestLiars_24 (by decide) ?_
  refine lv_land hx hb dX0_fewestLiars_25 ?_
  refine k_l 0 (by decide +kernel) ?_
  refine lv_lconst (v := 0) hx hb dX0_fewestLiars_26 (by decide) ?_
  refine W.lcmp hx hb dX0_fewestLiars_27 ?_
  refine k_i 0 (by decide +kernel) ?_
  refine lv_if_eq (tgt := 43) hx hb dX0_fewestLiars_28 (by decide) (fun _ => ?_) (fun c_ => absurd (by decide +kernel) c_)
  refine lv_iinc (v := 63) (lv' := [(5, .int 63), (4, .int 0), (2, .long 1), (0, .ref a0), (1, .ref a1)]) hx hb dX0_fewestLiars_43 hl (k := 0) rfl (by decide +kernel) (by decide) rfl (fun ls hl => ?_)
  refine lv_goto (tgt := 13) hx hb dX0_fewestLiars_46 (by decide) ?_
  refine lv_iload hx hb dX0_fewestLiars_13 (lv_at hl 0 rfl) ?_
  refine lv_bipush (v := 64) hx hb dX0_fewestLiars_15 (by decide) ?_
  refine lv_icmp_ge (tgt := 49) hx hb dX0_fewestLiars_17 (by decide) (fun c_ => absurd c_ (by decide +kernel)) (fun _ => ?_)
  refine lv_lload_n hx hb dX0_fewestLiars_20 rfl (lv_at hl 2 rfl) ?_
  refine lv_iload hx hb dX0_fewestLiars_21 (lv_at hl 0 rfl) ?_
  refine lv_lshr (v := 0) hx hb dX0_fewestLiars_23 (by decide +kernel) ?_
  refine lv_lconst (v := 1) hx hb dX0_fewestLiars_24 (by decide) ?_
  refine lv_land hx hb dX0_fewestLiars_25 ?_
  refine k_l 0 (by decide +kernel) ?_
  refine lv_lconst (v := 0) hx hb dX0_fewestLiars_26 (by decide) ?_
  refine W.lcmp hx hb dX0_fewestLiars_27 ?_
  refine k_i 0 (by decide +kernel) ?_
  refine lv_if_eq (tgt := 43) hx hb dX0_fewestLiars_28 (by decide) (fun _ => ?_) (fun c_ => absurd (by decide +kernel) c_)
  refine lv_iinc (v := 64) (lv' := [(5, .int 64), (4, .int 0), (2, .long 1), (0, .ref a0), (1, .ref a1)]) hx hb dX0_fewestLiars_43 hl (k := 0) rfl (by decide +kernel) (by decide) rfl (fun ls hl => ?_)
  refine lv_goto (tgt := 13) hx hb dX0_fewestLiars_46 (by decide) ?_
  refine lv_iload hx hb dX0_fewestLiars_13 (lv_at hl 0 rfl) ?_
  refine lv_bipush (v := 64) hx hb dX0_fewestLiars_15 (by decide) ?_
  refine lv_icmp_ge (tgt := 49) hx hb dX0_fewestLiars_17 (by decide) (fun _ => ?_) (fun c_ => absurd (by decide +kernel) c_)
  refine lv_iload hx hb dX0_fewestLiars_49 (lv_at hl 1 rfl) ?_
  exact k_iret hC hr hlk hK hP hD hS () [0] rfl (by decide) rfl (Nat.le_of_ble_eq_true rfl) (Nat.le_of_ble_eq_true rfl) dX0_fewestLiars_51
theorem dX0_countSets_0 : decode cX0_countSets 0 = .ok (.aload_n 0, 1) := by decide +kernel
theorem dX0_countSets_1 : decode cX0_countSets 1 = .ok (.aload_n 1, 1) := by decide +kernel
theorem dX0_countSets_2 : decode cX0_countSets 2 = .ok (.invokevirtual 55, 3) := by decide +kernel
theorem dX0_countSets_5 : decode cX0_countSets 5 = .ok (.lstore_n 2, 1) := by decide +kernel
theorem dX0_countSets_6 : decode cX0_countSets 6 = .ok (.aload_n 0, 1) := by decide +kernel
theorem dX0_countSets_7 : decode cX0_countSets 7 = .ok (.aload_n 1, 1) := by decide +kernel
theorem dX0_countSets_8 : decode cX0_countSets 8 = .ok (.invokevirtual 64, 3) := by decide +kernel
set_option maxRecDepth 100000 in
theorem wm_X0_64 : Cond.methodLink RX0 64 yX0_fewestLiars ∈ gw := gm (List.mem_of_getElem? (i := 1019) (by decide +kernel)) rfl
theorem dX0_countSets_11 : decode cX0_countSets 11 = .ok (.istore 4, 2) := by decide +kernel
theorem dX0_countSets_13 : decode cX0_countSets 13 = .ok (.iconst 0, 1) := by decide +kernel
theorem dX0_countSets_14 : decode cX0_countSets 14 = .ok (.istore 5, 2) := by decide +kernel
theorem dX0_countSets_16 : decode cX0_countSets 16 = .ok (.iconst 0, 1) := by decide +kernel
theorem dX0_countSets_17 : decode cX0_countSets 17 = .ok (.istore 6, 2) := by decide +kernel
theorem dX0_countSets_19 : decode cX0_countSets 19 = .ok (.iload 6, 2) := by decide +kernel
theorem dX0_countSets_21 : decode cX0_countSets 21 = .ok (.bipush 64, 2) := by decide +kernel
theorem dX0_countSets_23 : decode cX0_countSets 23 = .ok (.if_icmp .ge 33, 3) := by decide +kernel
theorem dX0_countSets_26 : decode cX0_countSets 26 = .ok (.lload_n 2, 1) := by decide +kernel
theorem dX0_countSets_27 : decode cX0_countSets 27 = .ok (.iload 6, 2) := by decide +kernel
theorem dX0_countSets_29 : decode cX0_countSets 29 = .ok (.lshr, 1) := by decide +kernel
theorem dX0_countSets_30 : decode cX0_countSets 30 = .ok (.lconst 1, 1) := by decide +kernel
theorem dX0_countSets_31 : decode cX0_countSets 31 = .ok (.land, 1) := by decide +kernel
theorem dX0_countSets_32 : decode cX0_countSets 32 = .ok (.lconst 0, 1) := by decide +kernel
theorem dX0_countSets_33 : decode cX0_countSets 33 = .ok (.lcmp, 1) := by decide +kernel
theorem dX0_countSets_34 : decode cX0_countSets 34 = .ok (.ifCond .eq 16, 3) := by decide +kernel
theorem dX0_countSets_37 : decode cX0_countSets 37 = .ok (.iload 6, 2) := by decide +kernel
theorem dX0_countSets_39 : decode cX0_countSets 39 = .ok (.invokestatic 58, 3) := by decide +kernel
theorem dX0_countSets_42 : decode cX0_countSets 42 = .ok (.iload 4, 2) := by decide +kernel
theorem dX0_countSets_44 : decode cX0_countSets 44 = .ok (.if_icmp .ne 6, 3) := by decide +kernel
theorem dX0_countSets_47 : decode cX0_countSets 47 = .ok (.iinc 5 1, 3) := by decide +kernel
theorem dX0_countSets_50 : decode cX0_countSets 50 = .ok (.iinc 6 1, 3) := by decide +kernel
theorem dX0_countSets_53 : decode cX0_countSets 53 = .ok (.goto (-34), 3) := by decide +kernel
theorem dX0_countSets_56 : decode cX0_countSets 56 = .ok (.iload 5, 2) := by decide +kernel
theorem dX0_countSets_58 : decode cX0_countSets 58 = .ok (.ireturn, 1) := by decide +kernel
set_option maxHeartbeats 4000000 in
set_option maxRecDepth 100000 in
theorem c96_X0_countSets (l : Launch) (G : va_G) (cI cJ cB cZ : ClassId) (a0 a1 a2 a3 a4 a5 a6 a7 a8 a9 a10 a11 a12 a13 : Nat) : Con l G (TY cI cJ cB cZ) yX0_countSets cX0_countSets 7 (some .int) ({ frames := 2, cells := 0, slots := 0, locals := 47 } : Room) [.ref a0, .ref a1] [(a0, .inr (0, [.ref a2, .int 1, .int 1, .long 0, .int 1, .int 0, .long 0])), (a2, .inl (cJ, 256, .inr (.inl (vp_updL (fun _ => 0) 0 0)))), (a1, .inr (7, [.int 100, .int 100, .int 0, .ref a3, .ref a4, .int 0, .ref a5, .ref a6, .ref a7, .ref a8, .ref a9, .ref a10, .ref a11, .ref a12, .ref a13]))] (QI G (TY cI cJ cB cZ) (fun (r : Int32) (u : Unit) => r = 1) (fun u : Unit => [(a0, .inr (0, [.ref a2, .int 1, .int 1, .long 0, .int 1, .int 1, .long 1])), (a2, .inl (cJ, 256, .inr (.inl (vp_updL (fun _ => 0) 0 0)))), (a1, .inr (7, [.int 100, .int 100, .int 0, .ref a3, .ref a4, .int 0, .ref a5, .ref a6, .ref a7, .ref a8, .ref a9, .ref a10, .ref a11, .ref a12, .ref a13]))])) := by
  refine k_met (by decide) (Nat.le_of_ble_eq_true rfl) ?_
  intro p e s m below meth c A ls hC hr hlk hnm hN hK hA hP hD hS hl
  have hl : lv_has ls 7 [(0, .ref a0), (1, .ref a1)] := hl
  obtain ⟨hx, hb, hml, hown, hts⟩ := id hC
  refine lv_aload_n hx hb dX0_countSets_0 rfl (lv_at hl 0 rfl) ?_
  refine lv_aload_n hx hb dX0_countSets_1 rfl (lv_at hl 1 rfl) ?_
  refine k_cl (wr := []) (k_rV hC hN hK hP hD (c90_X0_liarSets l G cI cJ cB cZ a0 a1 a2 a3 a4 a5 a6 a7 a8 a9 a10 a11 a12 a13) [0, 1, 2] rfl (by decide) mi_X0_liarSets in_X0_liarSets se_X0_liarSets wm_X0_55 0 0 rfl rfl rfl hl.1 rfl rfl (Nat.le_of_ble_eq_true rfl) ⟨(Nat.le_of_ble_eq_true rfl), (Nat.le_of_ble_eq_true rfl)⟩ dX0_countSets_2 ⟨(Nat.le_of_ble_eq_true rfl), (Nat.le_of_ble_eq_true rfl)⟩) hP hD hS hA [0, 1, 2] [] rfl rfl (by decide) (by decide) (fun r1 u1 H locs hp hP hD hS => ?_)
  have hP : va_P G cl [(a0, .inr (0, [.ref a2, .int 1, .int 1, .long 0, .int 1, .int 1, .long 1])), (a2, .inl (cJ, 256, .inr (.inl (vp_updL (fun _ => 0) 0 0)))), (a1, .inr (7, [.int 100, .int 100, .int 0, .ref a3, .ref a4, .int 0, .ref a5, .ref a6, .ref a7, .ref a8, .ref a9, .ref a10, .ref a11, .ref a12, .ref a13]))] H := hP
  have hD : va_D A [(a0, .inr (0, [.ref a2, .int 1, .int 1, .long 0, .int 1, .int 1, .long 1])), (a2, .inl (cJ, 256, .inr (.inl (vp_updL (fun _ => 0) 0 0)))), (a1, .inr (7, [.int 100, .int 100, .int 0, .ref a3, .ref a4, .int 0, .ref a5, .ref a6, .ref a7, .ref a8, .ref a9, .ref a10, .ref a11, .ref a12, .ref a13]))] := hD
  subst hp
  refine lv_lstore_n (lv' := [(2, .long 1), (0, .ref a0), (1, .ref a1)]) hx hb dX0_countSets_5 rfl hl (by decide) rfl (fun ls hl => ?_)
  refine lv_aload_n hx hb dX0_countSets_6 rfl (lv_at hl 1 rfl) ?_
  refine lv_aload_n hx hb dX0_countSets_7 rfl (lv_at hl 2 rfl) ?_
  refine k_ci (wr := [(a2, .inl (cJ, 256, .inr (.inl (vp_updL (fun _ => 0) 0 0)))), (a1, .inr (7, [.int 100, .int 100, .int 0, .ref a3, .ref a4, .int 0, .ref a5, .ref a6, .ref a7, .ref a8, .ref a9, .ref a10, .ref a11, .ref a12, .ref a13]))]) (k_rV hC hN hK hP hD (c95_X0_fewestLiars l G cI cJ cB cZ a0 a1 a2) [0] rfl (by decide) mi_X0_fewestLiars in_X0_fewestLiars se_X0_fewestLiars wm_X0_64 0 0 rfl rfl rfl hl.1 rfl rfl (Nat.le_of_ble_eq_true rfl) ⟨(Nat.le_of_ble_eq_true rfl), (Nat.le_of_ble_eq_true rfl)⟩ dX0_countSets_8 ⟨(Nat.le_of_ble_eq_true rfl), (Nat.le_of_ble_eq_true rfl)⟩) hP hD hS hA [0] [1, 2] rfl rfl (by decide) (by decide) (fun r2 u2 H locs hp hP hD hS => ?_)
  have hP : va_P G cl [(a2, .inl (cJ, 256, .inr (.inl (vp_updL (fun _ => 0) 0 0)))), (a1, .inr (7, [.int 100, .int 100, .int 0, .ref a3, .ref a4, .int 0, .ref a5, .ref a6, .ref a7, .ref a8, .ref a9, .ref a10, .ref a11, .ref a12, .ref a13])), (a0, .inr (0, [.ref a2, .int 1, .int 1, .long 0, .int 1, .int 1, .long 1]))] H := hP
  have hD : va_D A [(a2, .inl (cJ, 256, .inr (.inl (vp_updL (fun _ => 0) 0 0)))), (a1, .inr (7, [.int 100, .int 100, .int 0, .ref a3, .ref a4, .int 0, .ref a5, .ref a6, .ref a7, .ref a8, .ref a9, .ref a10, .ref a11, .ref a12, .ref a13])), (a0, .inr (0, [.ref a2, .int 1, .int 1, .long 0, .int 1, .int 1, .long 1]))] := hD
  subst hp
  refine lv_istore (lv' := [(4, .int 0), (2, .long 1), (0, .ref a0), (1, .ref a1)]) hx hb dX0_countSets_11 hl (by decide) rfl (fun ls hl => ?_)
  refine lv_iconst (v := 0) hx hb dX0_countSets_13 (by decide) ?_
  refine lv_istore (lv' := [(5, .int 0), (4, .int 0), (2, .long 1), (0, .ref a0), (1, .ref a1)]) hx hb dX0_countSets_14 hl (by decide) rfl (fun ls hl => ?_)
  refine lv_iconst (v := 0) hx hb dX0_countSets_16 (by decide) ?_
  refine lv_istore (lv' := [(6, .int 0), (5, .int 0), (4, .int 0), (2, .long 1), (0, .ref a0), (1, .ref a1)]) hx hb dX0_countSets_17 hl (by decide) rfl (fun ls hl => ?_)
  refine lv_iload hx hb dX0_countSets_19 (lv_at hl 0 rfl) ?_
  refine lv_bipush (v := 64) hx hb dX0_countSets_21 (by decide) ?_
  refine lv_icmp_ge (tgt := 56) hx hb dX0_countSets_23 (by decide) (fun c_ => absurd c_ (by decide +kernel)) (fun _ => ?_)
  refine lv_lload_n hx hb dX0_countSets_26 rfl (lv_at hl 3 rfl) ?_
  refine lv_iload hx hb dX0_countSets_27 (lv_at hl 0 rfl) ?_
  refine lv_lshr (v := 1) hx hb dX0_countSets_29 (by decide +kernel) ?_
  refine lv_lconst (v := 1) hx hb dX0_countSets_30 (by decide) ?_
  refine lv_land hx hb dX0_countSets_31 ?_
  refine k_l 1 (by decide +kernel) ?_
  refine lv_lconst (v := 0) hx hb dX0_countSets_32 (by decide) ?_
  refine W.lcmp hx hb dX0_countSets_33 ?_
  refine k_i 1 (by decide +kernel) ?_
  refine lv_if_eq (tgt := 50) hx hb dX0_countSets_34 (by decide) (fun c_ => absurd c_ (by decide +kernel)) (fun _ => ?_)
  refine lv_iload hx hb dX0_countSets_37 (lv_at hl 0 rfl) ?_
  refine k_ci (wr := [(a2, .inl (cJ, 256, .inr (.inl (vp_updL (fun _ => 0) 0 0)))), (a1, .inr (7, [.int 100, .int 100, .int 0, .ref a3, .ref a4, .int 0, .ref a5, .ref a6, .ref a7, .ref a8, .ref a9, .ref a10, .ref a11, .ref a12, .ref a13])), (a0, .inr (0, [.ref a2, .int 1, .int 1, .long 0, .int 1, .int 1, .long 1]))]) (k_rS hC hN hK hP hD (c91_J6_bitCount_0f7a4 l G cI cJ cB cZ) [] rfl (by decide) mi_J6_bitCount_0f7a4 st_J6_bitCount_0f7a4 wm_X0_58 hl.1 rfl rfl (Nat.le_of_ble_eq_true rfl) ⟨(Nat.le_of_ble_eq_true rfl), (Nat.le_of_ble_eq_true rfl)⟩ dX0_countSets_39 ⟨(Nat.le_of_ble_eq_true rfl), (Nat.le_of_ble_eq_true rfl)⟩) hP hD hS hA [] [0, 1, 2] rfl rfl (by decide) (by decide) (fun r3 u3 H locs hp hP hD hS => ?_)
  have hP : va_P G cl [(a2, .inl (cJ, 256, .inr (.inl (vp_updL (fun _ => 0) 0 0)))), (a1, .inr (7, [.int 100, .int 100, .int 0, .ref a3, .ref a4, .int 0, .ref a5, .ref a6, .ref a7, .ref a8, .ref a9, .ref a10, .ref a11, .ref a12, .ref a13])), (a0, .inr (0, [.ref a2, .int 1, .int 1, .long 0, .int 1, .int 1, .long 1]))] H := hP
  have hD : va_D A [(a2, .inl (cJ, 256, .inr (.inl (vp_updL (fun _ => 0) 0 0)))), (a1, .inr (7, [.int 100, .int 100, .int 0, .ref a3, .ref a4, .int 0, .ref a5, .ref a6, .ref a7, .ref a8, .ref a9, .ref a10, .ref a11, .ref a12, .ref a13])), (a0, .inr (0, [.ref a2, .int 1, .int 1, .long 0, .int 1, .int 1, .long 1]))] := hD
  subst hp
  refine lv_iload hx hb dX0_countSets_42 (lv_at hl 2 rfl) ?_
  refine lv_icmp_ne (tgt := 50) hx hb dX0_countSets_44 (by decide) (fun c_ => absurd (by decide +kernel) c_) (fun _ => ?_)
  refine lv_iinc (v := 1) (lv' := [(5, .int 1), (6, .int 0), (4, .int 0), (2, .long 1), (0, .ref a0), (1, .ref a1)]) hx hb dX0_countSets_47 hl (k := 1) rfl (by decide +kernel) (by decide) rfl (fun ls hl => ?_)
  refine lv_iinc (v := 1) (lv' := [(6, .int 1), (5, .int 1), (4, .int 0), (2, .long 1), (0, .ref a0), (1, .ref a1)]) hx hb dX0_countSets_50 hl (k := 1) rfl (by decide +kernel) (by decide) rfl (fun ls hl => ?_)
  refine lv_goto (tgt := 19) hx hb dX0_countSets_53 (by decide) ?_
  refine lv_iload hx hb dX0_countSets_19 (lv_at hl 0 rfl) ?_
  refine lv_bipush (v := 64) hx hb dX0_countSets_21 (by decide) ?_
  refine lv_icmp_ge (tgt := 56) hx hb dX0_countSets_23 (by decide) (fun c_ => absurd c_ (by decide +kernel)) (fun _ => ?_)
  refine lv_lload_n hx hb dX0_countSets_26 rfl (lv_at hl 3 rfl) ?_
  refine lv_iload hx hb dX0_countSets_27 (lv_at hl 0 rfl) ?_
  refine lv_lshr (v := 0) hx hb dX0_countSets_29 (by decide +kernel) ?_
  refine lv_lconst (v := 1) hx hb dX0_countSets_30 (by decide) ?_
  refine lv_land hx hb dX0_countSets_31 ?_
  refine k_l 0 (by decide +kernel) ?_
  refine lv_lconst (v := 0) hx hb dX0_countSets_32 (by decide) ?_
  refine W.lcmp hx hb dX0_countSets_33 ?_
  refine k_i 0 (by decide +kernel) ?_
  refine lv_if_eq (tgt := 50) hx hb dX0_countSets_34 (by decide) (fun _ => ?_) (fun c_ => absurd (by decide +kernel) c_)
  refine lv_iinc (v := 2) (lv' := [(6, .int 2), (5, .int 1), (4, .int 0), (2, .long 1), (0, .ref a0), (1, .ref a1)]) hx hb dX0_countSets_50 hl (k := 0) rfl (by decide +kernel) (by decide) rfl (fun ls hl => ?_)
  refine lv_goto (tgt := 19) hx hb dX0_countSets_53 (by decide) ?_
  refine lv_iload hx hb dX0_countSets_19 (lv_at hl 0 rfl) ?_
  refine lv_bipush (v := 64) hx hb dX0_countSets_21 (by decide) ?_
  refine lv_icmp_ge (tgt := 56) hx hb dX0_countSets_23 (by decide) (fun c_ => absurd c_ (by decide +kernel)) (fun _ => ?_)
  refine lv_lload_n hx hb dX0_countSets_26 rfl (lv_at hl 3 rfl) ?_
  refine lv_iload hx hb dX0_countSets_27 (lv_at hl 0 rfl) ?_
  refine lv_lshr (v := 0) hx hb dX0_countSets_29 (by decide +kernel) ?_
  refine lv_lconst (v := 1) hx hb dX0_countSets_30 (by decide) ?_
  refine lv_land hx hb dX0_countSets_31 ?_
  refine k_l 0 (by decide +kernel) ?_
  refine lv_lconst (v := 0) hx hb dX0_countSets_32 (by decide) ?_
  refine W.lcmp hx hb dX0_countSets_33 ?_
  refine k_i 0 (by decide +kernel) ?_
  refine lv_if_eq (tgt := 50) hx hb dX0_countSets_34 (by decide) (fun _ => ?_) (fun c_ => absurd (by decide +kernel) c_)
  refine lv_iinc (v := 3) (lv' := [(6, .int 3), (5, .int 1), (4, .int 0), (2, .long 1), (0, .ref a0), (1, .ref a1)]) hx hb dX0_countSets_50 hl (k := 0) rfl (by decide +kernel) (by decide) rfl (fun ls hl => ?_)
  refine lv_goto (tgt := 19) hx hb dX0_countSets_53 (by decide) ?_
  refine lv_iload hx hb dX0_countSets_19 (lv_at hl 0 rfl) ?_
  refine lv_bipush (v := 64) hx hb dX0_countSets_21 (by decide) ?_
  refine lv_icmp_ge (tgt := 56) hx hb dX0_countSets_23 (by decide) (fun c_ => absurd c_ (by decide +kernel)) (fun _ => ?_)
  refine lv_lload_n hx hb dX0_countSets_26 rfl (lv_at hl 3 rfl) ?_
  refine lv_iload hx hb dX0_countSets_27 (lv_at hl 0 rfl) ?_
  refine lv_lshr (v := 0) hx hb dX0_countSets_29 (by decide +kernel) ?_
  refine lv_lconst (v := 1) hx hb dX0_countSets_30 (by decide) ?_
  refine lv_land hx hb dX0_countSets_31 ?_
  refine k_l 0 (by decide +kernel) ?_
  refine lv_lconst (v := 0) hx hb dX0_countSets_32 (by decide) ?_
  refine W.lcmp hx hb dX0_countSets_33 ?_
  refine k_i 0 (by decide +kernel) ?_
  refine lv_if_eq (tgt := 50) hx hb dX0_countSets_34 (by decide) (fun _ => ?_) (fun c_ => absurd (by decide +kernel) c_)
  refine lv_iinc (v := 4) (lv' := [(6, .int 4), (5, .int 1), (4, .int 0), (2, .long 1), (0, .ref a0), (1, .ref a1)]) hx hb dX0_countSets_50 hl (k := 0) rfl (by decide +kernel) (by decide) rfl (fun ls hl => ?_)
  refine lv_goto (tgt := 19) hx hb dX0_countSets_53 (by decide) ?_
  refine lv_iload hx hb dX0_countSets_19 (lv_at hl 0 rfl) ?_
  refine lv_bipush (v := 64) hx hb dX0_countSets_21 (by decide) ?_
  refine lv_icmp_ge (tgt := 56) hx hb dX0_countSets_23 (by decide) (fun c_ => absurd c_ (by decide +kernel)) (fun _ => ?_)
  refine lv_lload_n hx hb dX0_countSets_26 rfl (lv_at hl 3 rfl) ?_
  refine lv_iload hx hb dX0_countSets_27 (lv_at hl 0 rfl) ?_
  refine lv_lshr (v := 0) hx hb dX0_countSets_29 (by decide +kernel) ?_
  refine lv_lconst (v := 1) hx hb dX0_countSets_30 (by decide) ?_
  refine lv_land hx hb dX0_countSets_31 ?_
  refine k_l 0 (by decide +kernel) ?_
  refine lv_lconst (v := 0) hx hb dX0_countSets_32 (by decide) ?_
  refine W.lcmp hx hb dX0_countSets_33 ?_
  refine k_i 0 (by decide +kernel) ?_
  refine lv_if_eq (tgt := 50) hx hb dX0_countSets_34 (by decide) (fun _ => ?_) (fun c_ => absurd (by decide +kernel) c_)
  refine lv_iinc (v := 5) (lv' := [(6, .int 5), (5, .int 1), (4, .int 0), (2, .long 1), (0, .ref a0), (1, .ref a1)]) hx hb dX0_countSets_50 hl (k := 0) rfl (by decide +kernel) (by decide) rfl (fun ls hl => ?_)
  refine lv_goto (tgt := 19) hx hb dX0_countSets_53 (by decide) ?_
  refine lv_iload hx hb dX0_countSets_19 (lv_at hl 0 rfl) ?_
  refine lv_bipush (v := 64) hx hb dX0_countSets_21 (by decide) ?_
  refine lv_icmp_ge (tgt := 56) hx hb dX0_countSets_23 (by decide) (fun c_ => absurd c_ (by decide +kernel)) (fun _ => ?_)
  refine lv_lload_n hx hb dX0_countSets_26 rfl (lv_at hl 3 rfl) ?_
  refine lv_iload hx hb dX0_countSets_27 (lv_at hl 0 rfl) ?_
  refine lv_lshr (v := 0) hx hb dX0_countSets_29 (by decide +kernel) ?_
  refine lv_lconst (v := 1) hx hb dX0_countSets_30 (by decide) ?_
  refine lv_land hx hb dX0_countSets_31 ?_
  refine k_l 0 (by decide +kernel) ?_
  refine lv_lconst (v := 0) hx hb dX0_countSets_32 (by decide) ?_
  refine W.lcmp hx hb dX0_countSets_33 ?_
  refine k_i 0 (by decide +kernel) ?_
  refine lv_if_eq (tgt := 50) hx hb dX0_countSets_34 (by decide) (fun _ => ?_) (fun c_ => absurd (by decide +kernel) c_)
  refine lv_iinc (v := 6) (lv' := [(6, .int 6), (5, .int 1), (4, .int 0), (2, .long 1), (0, .ref a0), (1, .ref a1)]) hx hb dX0_countSets_50 hl (k := 0) rfl (by decide +kernel) (by decide) rfl (fun ls hl => ?_)
  refine lv_goto (tgt := 19) hx hb dX0_countSets_53 (by decide) ?_
  refine lv_iload hx hb dX0_countSets_19 (lv_at hl 0 rfl) ?_
  refine lv_bipush (v := 64) hx hb dX0_countSets_21 (by decide) ?_
  refine lv_icmp_ge (tgt := 56) hx hb dX0_countSets_23 (by decide) (fun c_ => absurd c_ (by decide +kernel)) (fun _ => ?_)
  refine lv_lload_n hx hb dX0_countSets_26 rfl (lv_at hl 3 rfl) ?_
  refine lv_iload hx hb dX0_countSets_27 (lv_at hl 0 rfl) ?_
  refine lv_lshr (v := 0) hx hb dX0_countSets_29 (by decide +kernel) ?_
  refine lv_lconst (v := 1) hx hb dX0_countSets_30 (by decide) ?_
  refine lv_land hx hb dX0_countSets_31 ?_
  refine k_l 0 (by decide +kernel) ?_
  refine lv_lconst (v := 0) hx hb dX0_countSets_32 (by decide) ?_
  refine W.lcmp hx hb dX0_countSets_33 ?_
  refine k_i 0 (by decide +kernel) ?_
  refine lv_if_eq (tgt := 50) hx hb dX0_countSets_34 (by decide) (fun _ => ?_) (fun c_ => absurd (by decide +kernel) c_)
  refine lv_iinc (v := 7) (lv' := [(6, .int 7), (5, .int 1), (4, .int 0), (2, .long 1), (0, .ref a0), (1, .ref a1)]) hx hb dX0_countSets_50 hl (k := 0) rfl (by decide +kernel) (by decide) rfl (fun ls hl => ?_)
  refine lv_goto (tgt := 19) hx hb dX0_countSets_53 (by decide) ?_
  refine lv_iload hx hb dX0_countSets_19 (lv_at hl 0 rfl) ?_
  refine lv_bipush (v := 64) hx hb dX0_countSets_21 (by decide) ?_
  refine lv_icmp_ge (tgt := 56) hx hb dX0_countSets_23 (by decide) (fun c_ => absurd c_ (by decide +kernel)) (fun _ => ?_)
  refine lv_lload_n hx hb dX0_countSets_26 rfl (lv_at hl 3 rfl) ?_
  refine lv_iload hx hb dX0_countSets_27 (lv_at hl 0 rfl) ?_
  refine lv_lshr (v := 0) hx hb dX0_countSets_29 (by decide +kernel) ?_
  refine lv_lconst (v := 1) hx hb dX0_countSets_30 (by decide) ?_
  refine lv_land hx hb dX0_countSets_31 ?_
  refine k_l 0 (by decide +kernel) ?_
  refine lv_lconst (v := 0) hx hb dX0_countSets_32 (by decide) ?_
  refine W.lcmp hx hb dX0_countSets_33 ?_
  refine k_i 0 (by decide +kernel) ?_
  refine lv_if_eq (tgt := 50) hx hb dX0_countSets_34 (by decide) (fun _ => ?_) (fun c_ => absurd (by decide +kernel) c_)
  refine lv_iinc (v := 8) (lv' := [(6, .int 8), (5, .int 1), (4, .int 0), (2, .long 1), (0, .ref a0), (1, .ref a1)]) hx hb dX0_countSets_50 hl (k := 0) rfl (by decide +kernel) (by decide) rfl (fun ls hl => ?_)
  refine lv_goto (tgt := 19) hx hb dX0_countSets_53 (by decide) ?_
  refine lv_iload hx hb dX0_countSets_19 (lv_at hl 0 rfl) ?_
  refine lv_bipush (v := 64) hx hb dX0_countSets_21 (by decide) ?_
  refine lv_icmp_ge (tgt := 56) hx hb dX0_countSets_23 (by decide) (fun c_ => absurd c_ (by decide +kernel)) (fun _ => ?_)
  refine lv_lload_n hx hb dX0_countSets_26 rfl (lv_at hl 3 rfl) ?_
  refine lv_iload hx hb dX0_countSets_27 (lv_at hl 0 rfl) ?_
  refine lv_lshr (v := 0) hx hb dX0_countSets_29 (by decide +kernel) ?_
  refine lv_lconst (v := 1) hx hb dX0_countSets_30 (by decide) ?_
  refine lv_land hx hb dX0_countSets_31 ?_
  refine k_l 0 (by decide +kernel) ?_
  refine lv_lconst (v := 0) hx hb dX0_countSets_32 (by decide) ?_
  refine W.lcmp hx hb dX0_countSets_33 ?_
  refine k_i 0 (by decide +kernel) ?_
  refine lv_if_eq (tgt := 50) hx hb dX0_countSets_34 (by decide) (fun _ => ?_) (fun c_ => absurd (by decide +kernel) c_)
  refine lv_iinc (v := 9) (lv' := [(6, .int 9), (5, .int 1), (4, .int 0), (2, .long 1), (0, .ref a0), (1, .ref a1)]) hx hb dX0_countSets_50 hl (k := 0) rfl (by decide +kernel) (by decide) rfl (fun ls hl => ?_)
  refine lv_goto (tgt := 19) hx hb dX0_countSets_53 (by decide) ?_
  refine lv_iload hx hb dX0_countSets_19 (lv_at hl 0 rfl) ?_
  refine lv_bipush (v := 64) hx hb dX0_countSets_21 (by decide) ?_
  refine lv_icmp_ge (tgt := 56) hx hb dX0_countSets_23 (by decide) (fun c_ => absurd c_ (by decide +kernel)) (fun _ => ?_)
  refine lv_lload_n hx hb dX0_countSets_26 rfl (lv_at hl 3 rfl) ?_
  refine lv_iload hx hb dX0_countSets_27 (lv_at hl 0 rfl) ?_
  refine lv_lshr (v := 0) hx hb dX0_countSets_29 (by decide +kernel) ?_
  refine lv_lconst (v := 1) hx hb dX0_countSets_30 (by decide) ?_
  refine lv_land hx hb dX0_countSets_31 ?_
  refine k_l 0 (by decide +kernel) ?_
  refine lv_lconst (v := 0) hx hb dX0_countSets_32 (by decide) ?_
  refine W.lcmp hx hb dX0_countSets_33 ?_
  refine k_i 0 (by decide +kernel) ?_
  refine lv_if_eq (tgt := 50) hx hb dX0_countSets_34 (by decide) (fun _ => ?_) (fun c_ => absurd (by decide +kernel) c_)
  refine lv_iinc (v := 10) (lv' := [(6, .int 10), (5, .int 1), (4, .int 0), (2, .long 1), (0, .ref a0), (1, .ref a1)]) hx hb dX0_countSets_50 hl (k := 0) rfl (by decide +kernel) (by decide) rfl (fun ls hl => ?_)
  refine lv_goto (tgt := 19) hx hb dX0_countSets_53 (by decide) ?_
  refine lv_iload hx hb dX0_countSets_19 (lv_at hl 0 rfl) ?_
  refine lv_bipush (v := 64) hx hb dX0_countSets_21 (by decide) ?_
  refine lv_icmp_ge (tgt := 56) hx hb dX0_countSets_23 (by decide) (fun c_ => absurd c_ (by decide +kernel)) (fun _ => ?_)
  refine lv_lload_n hx hb dX0_countSets_26 rfl (lv_at hl 3 rfl) ?_
  refine lv_iload hx hb dX0_countSets_27 (lv_at hl 0 rfl) ?_
  refine lv_lshr (v := 0) hx hb dX0_countSets_29 (by decide +kernel) ?_
  refine lv_lconst (v := 1) hx hb dX0_countSets_30 (by decide) ?_
  refine lv_land hx hb dX0_countSets_31 ?_
  refine k_l 0 (by decide +kernel) ?_
  refine lv_lconst (v := 0) hx hb dX0_countSets_32 (by decide) ?_
  refine W.lcmp hx hb dX0_countSets_33 ?_
  refine k_i 0 (by decide +kernel) ?_
  refine lv_if_eq (tgt := 50) hx hb dX0_countSets_34 (by decide) (fun _ => ?_) (fun c_ => absurd (by decide +kernel) c_)
  refine lv_iinc (v := 11) (lv' := [(6, .int 11), (5, .int 1), (4, .int 0), (2, .long 1), (0, .ref a0), (1, .ref a1)]) hx hb dX0_countSets_50 hl (k := 0) rfl (by decide +kernel) (by decide) rfl (fun ls hl => ?_)
  refine lv_goto (tgt := 19) hx hb dX0_countSets_53 (by decide) ?_
  refine lv_iload hx hb dX0_countSets_19 (lv_at hl 0 rfl) ?_
  refine lv_bipush (v := 64) hx hb dX0_countSets_21 (by decide) ?_
  refine lv_icmp_ge (tgt := 56) hx hb dX0_countSets_23 (by decide) (fun c_ => absurd c_ (by decide +kernel)) (fun _ => ?_)
  refine lv_lload_n hx hb dX0_countSets_26 rfl (lv_at hl 3 rfl) ?_
  refine lv_iload hx hb dX0_countSets_27 (lv_at hl 0 rfl) ?_
  refine lv_lshr (v := 0) hx hb dX0_countSets_29 (by decide +kernel) ?_
  refine lv_lconst (v := 1) hx hb dX0_countSets_30 (by decide) ?_
  refine lv_land hx hb dX0_countSets_31 ?_
  refine k_l 0 (by decide +kernel) ?_
  refine lv_lconst (v := 0) hx hb dX0_countSets_32 (by decide) ?_
  refine W.lcmp hx hb dX0_countSets_33 ?_
  refine k_i 0 (by decide +kernel) ?_
  refine lv_if_eq (tgt := 50) hx hb dX0_countSets_34 (by decide) (fun _ => ?_) (fun c_ => absurd (by decide +kernel) c_)
  refine lv_iinc (v := 12) (lv' := [(6, .int 12), (5, .int 1), (4, .int 0), (2, .long 1), (0, .ref a0), (1, .ref a1)]) hx hb dX0_countSets_50 hl (k := 0) rfl (by decide +kernel) (by decide) rfl (fun ls hl => ?_)
  refine lv_goto (tgt := 19) hx hb dX0_countSets_53 (by decide) ?_
  refine lv_iload hx hb dX0_countSets_19 (lv_at hl 0 rfl) ?_
  refine lv_bipush (v := 64) hx hb dX0_countSets_21 (by decide) ?_
  refine lv_icmp_ge (tgt := 56) hx hb dX0_countSets_23 (by decide) (fun c_ => absurd c_ (by decide +kernel)) (fun _ => ?_)
  refine lv_lload_n hx hb dX0_countSets_26 rfl (lv_at hl 3 rfl) ?_
  refine lv_iload hx hb dX0_countSets_27 (lv_at hl 0 rfl) ?_
  refine lv_lshr (v := 0) hx hb dX0_countSets_29 (by decide +kernel) ?_
  refine lv_lconst (v := 1) hx hb dX0_countSets_30 (by decide) ?_
  refine lv_land hx hb dX0_countSets_31 ?_
  refine k_l 0 (by decide +kernel) ?_
  refine lv_lconst (v := 0) hx hb dX0_countSets_32 (by decide) ?_
  refine W.lcmp hx hb dX0_countSets_33 ?_
  refine k_i 0 (by decide +kernel) ?_
  refine lv_if_eq (tgt := 50) hx hb dX0_countSets_34 (by decide) (fun _ => ?_) (fun c_ => absurd (by decide +kernel) c_)
  refine lv_iinc (v := 13) (lv' := [(6, .int 13), (5, .int 1), (4, .int 0), (2, .long 1), (0, .ref a0), (1, .ref a1)]) hx hb dX0_countSets_50 hl (k := 0) rfl (by decide +kernel) (by decide) rfl (fun ls hl => ?_)
  refine lv_goto (tgt := 19) hx hb dX0_countSets_53 (by decide) ?_
  refine lv_iload hx hb dX0_countSets_19 (lv_at hl 0 rfl) ?_
  refine lv_bipush (v := 64) hx hb dX0_countSets_21 (by decide) ?_
  refine lv_icmp_ge (tgt := 56) hx hb dX0_countSets_23 (by decide) (fun c_ => absurd c_ (by decide +kernel)) (fun _ => ?_)
  refine lv_lload_n hx hb dX0_countSets_26 rfl (lv_at hl 3 rfl) ?_
  refine lv_iload hx hb dX0_countSets_27 (lv_at hl 0 rfl) ?_
  refine lv_lshr (v := 0) hx hb dX0_countSets_29 (by decide +kernel) ?_
  refine lv_lconst (v := 1) hx hb dX0_countSets_30 (by decide) ?_
  refine lv_land hx hb dX0_countSets_31 ?_
  refine k_l 0 (by decide +kernel) ?_
  refine lv_lconst (v := 0) hx hb dX0_countSets_32 (by decide) ?_
  refine W.lcmp hx hb dX0_countSets_33 ?_
  refine k_i 0 (by decide +kernel) ?_
  refine lv_if_eq (tgt := 50) hx hb dX0_countSets_34 (by decide) (fun _ => ?_) (fun c_ => absurd (by decide +kernel) c_)
  refine lv_iinc (v := 14) (lv' := [(6, .int 14), (5, .int 1), (4, .int 0), (2, .long 1), (0, .ref a0), (1, .ref a1)]) hx hb dX0_countSets_50 hl (k := 0) rfl (by decide +kernel) (by decide) rfl (fun ls hl => ?_)
  refine lv_goto (tgt := 19) hx hb dX0_countSets_53 (by decide) ?_
  refine lv_iload hx hb dX0_countSets_19 (lv_at hl 0 rfl) ?_
  refine lv_bipush (v := 64) hx hb dX0_countSets_21 (by decide) ?_
  refine lv_icmp_ge (tgt := 56) hx hb dX0_countSets_23 (by decide) (fun c_ => absurd c_ (by decide +kernel)) (fun _ => ?_)
  refine lv_lload_n hx hb dX0_countSets_26 rfl (lv_at hl 3 rfl) ?_
  refine lv_iload hx hb dX0_countSets_27 (lv_at hl 0 rfl) ?_
  refine lv_lshr (v := 0) hx hb dX0_countSets_29 (by decide +kernel) ?_
  refine lv_lconst (v := 1) hx hb dX0_countSets_30 (by decide) ?_
  refine lv_land hx hb dX0_countSets_31 ?_
  refine k_l 0 (by decide +kernel) ?_
  refine lv_lconst (v := 0) hx hb dX0_countSets_32 (by decide) ?_
  refine W.lcmp hx hb dX0_countSets_33 ?_
  refine k_i 0 (by decide +kernel) ?_
  refine lv_if_eq (tgt := 50) hx hb dX0_countSets_34 (by decide) (fun _ => ?_) (fun c_ => absurd (by decide +kernel) c_)
  refine lv_iinc (v := 15) (lv' := [(6, .int 15), (5, .int 1), (4, .int 0), (2, .long 1), (0, .ref a0), (1, .ref a1)]) hx hb dX0_countSets_50 hl (k := 0) rfl (by decide +kernel) (by decide) rfl (fun ls hl => ?_)
  refine lv_goto (tgt := 19) hx hb dX0_countSets_53 (by decide) ?_
  refine lv_iload hx hb dX0_countSets_19 (lv_at hl 0 rfl) ?_
  refine lv_bipush (v := 64) hx hb dX0_countSets_21 (by decide) ?_
  refine lv_icmp_ge (tgt := 56) hx hb dX0_countSets_23 (by decide) (fun c_ => absurd c_ (by decide +kernel)) (fun _ => ?_)
  refine lv_lload_n hx hb dX0_countSets_26 rfl (lv_at hl 3 rfl) ?_
  refine lv_iload hx hb dX0_countSets_27 (lv_at hl 0 rfl) ?_
  refine lv_lshr (v := 0) hx hb dX0_countSets_29 (by decide +kernel) ?_
  refine lv_lconst (v := 1) hx hb dX0_countSets_30 (by decide) ?_
  refine lv_land hx hb dX0_countSets_31 ?_
  refine k_l 0 (by decide +kernel) ?_
  refine lv_lconst (v := 0) hx hb dX0_countSets_32 (by decide) ?_
  refine W.lcmp hx hb dX0_countSets_33 ?_
  refine k_i 0 (by decide +kernel) ?_
  refine lv_if_eq (tgt := 50) hx hb dX0_countSets_34 (by decide) (fun _ => ?_) (fun c_ => absurd (by decide +kernel) c_)
  refine lv_iinc (v := 16) (lv' := [(6, .int 16), (5, .int 1), (4, .int 0), (2, .long 1), (0, .ref a0), (1, .ref a1)]) hx hb dX0_countSets_50 hl (k := 0) rfl (by decide +kernel) (by decide) rfl (fun ls hl => ?_)
  refine lv_goto (tgt := 19) hx hb dX0_countSets_53 (by decide) ?_
  refine lv_iload hx hb dX0_countSets_19 (lv_at hl 0 rfl) ?_
  refine lv_bipush (v := 64) hx hb dX0_countSets_21 (by decide) ?_
  refine lv_icmp_ge (tgt := 56) hx hb dX0_countSets_23 (by decide) (fun c_ => absurd c_ (by decide +kernel)) (fun _ => ?_)
  refine lv_lload_n hx hb dX0_countSets_26 rfl (lv_at hl 3 rfl) ?_
  refine lv_iload hx hb dX0_countSets_27 (lv_at hl 0 rfl) ?_
  refine lv_lshr (v := 0) hx hb dX0_countSets_29 (by decide +kernel) ?_
  refine lv_lconst (v := 1) hx hb dX0_countSets_30 (by decide) ?_
  refine lv_land hx hb dX0_countSets_31 ?_
  refine k_l 0 (by decide +kernel) ?_
  refine lv_lconst (v := 0) hx hb dX0_countSets_32 (by decide) ?_
  refine W.lcmp hx hb dX0_countSets_33 ?_
  refine k_i 0 (by decide +kernel) ?_
  refine lv_if_eq (tgt := 50) hx hb dX0_countSets_34 (by decide) (fun _ => ?_) (fun c_ => absurd (by decide +kernel) c_)
  refine lv_iinc (v := 17) (lv' := [(6, .int 17), (5, .int 1), (4, .int 0), (2, .long 1), (0, .ref a0), (1, .ref a1)]) hx hb dX0_countSets_50 hl (k := 0) rfl (by decide +kernel) (by decide) rfl (fun ls hl => ?_)
  refine lv_goto (tgt := 19) hx hb dX0_countSets_53 (by decide) ?_
  refine lv_iload hx hb dX0_countSets_19 (lv_at hl 0 rfl) ?_
  refine lv_bipush (v := 64) hx hb dX0_countSets_21 (by decide) ?_
  refine lv_icmp_ge (tgt := 56) hx hb dX0_countSets_23 (by decide) (fun c_ => absurd c_ (by decide +kernel)) (fun _ => ?_)
  refine lv_lload_n hx hb dX0_countSets_26 rfl (lv_at hl 3 rfl) ?_
  refine lv_iload hx hb dX0_countSets_27 (lv_at hl 0 rfl) ?_
  refine lv_lshr (v := 0) hx hb dX0_countSets_29 (by decide +kernel) ?_
  refine lv_lconst (v := 1) hx hb dX0_countSets_30 (by decide) ?_
  refine lv_land hx hb dX0_countSets_31 ?_
  refine k_l 0 (by decide +kernel) ?_
  refine lv_lconst (v := 0) hx hb dX0_countSets_32 (by decide) ?_
  refine W.lcmp hx hb dX0_countSets_33 ?_
  refine k_i 0 (by decide +kernel) ?_
  refine lv_if_eq (tgt := 50) hx hb dX0_countSets_34 (by decide) (fun _ => ?_) (fun c_ => absurd (by decide +kernel) c_)
  refine lv_iinc (v := 18) (lv' := [(6, .int 18), (5, .int 1), (4, .int 0), (2, .long 1), (0, .ref a0), (1, .ref a1)]) hx hb dX0_countSets_50 hl (k := 0) rfl (by decide +kernel) (by decide) rfl (fun ls hl => ?_)
  refine lv_goto (tgt := 19) hx hb dX0_countSets_53 (by decide) ?_
  refine lv_iload hx hb dX0_countSets_19 (lv_at hl 0 rfl) ?_
  refine lv_bipush (v := 64) hx hb dX0_countSets_21 (by decide) ?_
  refine lv_icmp_ge (tgt := 56) hx hb dX0_countSets_23 (by decide) (fun c_ => absurd c_ (by decide +kernel)) (fun _ => ?_)
  refine lv_lload_n hx hb dX0_countSets_26 rfl (lv_at hl 3 rfl) ?_
  refine lv_iload hx hb dX0_countSets_27 (lv_at hl 0 rfl) ?_
  refine lv_lshr (v := 0) hx hb dX0_countSets_29 (by decide +kernel) ?_
  refine lv_lconst (v := 1) hx hb dX0_countSets_30 (by decide) ?_
  refine lv_land hx hb dX0_countSets_31 ?_
  refine k_l 0 (by decide +kernel) ?_
  refine lv_lconst (v := 0) hx hb dX0_countSets_32 (by decide) ?_
  refine W.lcmp hx hb dX0_countSets_33 ?_
  refine k_i 0 (by decide +kernel) ?_
  refine lv_if_eq (tgt := 50) hx hb dX0_countSets_34 (by decide) (fun _ => ?_) (fun c_ => absurd (by decide +kernel) c_)
  refine lv_iinc (v := 19) (lv' := [(6, .int 19), (5, .int 1), (4, .int 0), (2, .long 1), (0, .ref a0), (1, .ref a1)]) hx hb dX0_countSets_50 hl (k := 0) rfl (by decide +kernel) (by decide) rfl (fun ls hl => ?_)
  refine lv_goto (tgt := 19) hx hb dX0_countSets_53 (by decide) ?_
  refine lv_iload hx hb dX0_countSets_19 (lv_at hl 0 rfl) ?_
  refine lv_bipush (v := 64) hx hb dX0_countSets_21 (by decide) ?_
  refine lv_icmp_ge (tgt := 56) hx hb dX0_countSets_23 (by decide) (fun c_ => absurd c_ (by decide +kernel)) (fun _ => ?_)
  refine lv_lload_n hx hb dX0_countSets_26 rfl (lv_at hl 3 rfl) ?_
  refine lv_iload hx hb dX0_countSets_27 (lv_at hl 0 rfl) ?_
  refine lv_lshr (v := 0) hx hb dX0_countSets_29 (by decide +kernel) ?_
  refine lv_lconst (v := 1) hx hb dX0_countSets_30 (by decide) ?_
  refine lv_land hx hb dX0_countSets_31 ?_
  refine k_l 0 (by decide +kernel) ?_
  refine lv_lconst (v := 0) hx hb dX0_countSets_32 (by decide) ?_
  refine W.lcmp hx hb dX0_countSets_33 ?_
  refine k_i 0 (by decide +kernel) ?_
  refine lv_if_eq (tgt := 50) hx hb dX0_countSets_34 (by decide) (fun _ => ?_) (fun c_ => absurd (by decide +kernel) c_)
  refine lv_iinc (v := 20) (lv' := [(6, .int 20), (5, .int 1), (4, .int 0), (2, .long 1), (0, .ref a0), (1, .ref a1)]) hx hb dX0_countSets_50 hl (k := 0) rfl (by decide +kernel) (by decide) rfl (fun ls hl => ?_)
  refine lv_goto (tgt := 19) hx hb dX0_countSets_53 (by decide) ?_
  refine lv_iload hx hb dX0_countSets_19 (lv_at hl 0 rfl) ?_
  refine lv_bipush (v := 64) hx hb dX0_countSets_21 (by decide) ?_
  refine lv_icmp_ge (tgt := 56) hx hb dX0_countSets_23 (by decide) (fun c_ => absurd c_ (by decide +kernel)) (fun _ => ?_)
  refine lv_lload_n hx hb dX0_countSets_26 rfl (lv_at hl 3 rfl) ?_
  refine lv_iload hx hb dX0_countSets_27 (lv_at hl 0 rfl) ?_
  refine lv_lshr (v := 0) hx hb dX0_countSets_29 (by decide +kernel) ?_
  refine lv_lconst (v := 1) hx hb dX0_countSets_30 (by decide) ?_
  refine lv_land hx hb dX0_countSets_31 ?_
  refine k_l 0 (by decide +kernel) ?_
  refine lv_lconst (v := 0) hx hb dX0_countSets_32 (by decide) ?_
  refine W.lcmp hx hb dX0_countSets_33 ?_
  refine k_i 0 (by decide +kernel) ?_
  refine lv_if_eq (tgt := 50) hx hb dX0_countSets_34 (by decide) (fun _ => ?_) (fun c_ => absurd (by decide +kernel) c_)
  refine lv_iinc (v := 21) (lv' := [(6, .int 21), (5, .int 1), (4, .int 0), (2, .long 1), (0, .ref a0), (1, .ref a1)]) hx hb dX0_countSets_50 hl (k := 0) rfl (by decide +kernel) (by decide) rfl (fun ls hl => ?_)
  refine lv_goto (tgt := 19) hx hb dX0_countSets_53 (by decide) ?_
  refine lv_iload hx hb dX0_countSets_19 (lv_at hl 0 rfl) ?_
  refine lv_bipush (v := 64) hx hb dX0_countSets_21 (by decide) ?_
  refine lv_icmp_ge (tgt := 56) hx hb dX0_countSets_23 (by decide) (fun c_ => absurd c_ (by decide +kernel)) (fun _ => ?_)
  refine lv_lload_n hx hb dX0_countSets_26 rfl (lv_at hl 3 rfl) ?_
  refine lv_iload hx hb dX0_countSets_27 (lv_at hl 0 rfl) ?_
  refine lv_lshr (v := 0) hx hb dX0_countSets_29 (by decide +kernel) ?_
  refine lv_lconst (v := 1) hx hb dX0_countSets_30 (by decide) ?_
  refine lv_land hx hb dX0_countSets_31 ?_
  refine k_l 0 (by decide +kernel) ?_
  refine lv_lconst (v := 0) hx hb dX0_countSets_32 (by decide) ?_
  refine W.lcmp hx hb dX0_countSets_33 ?_
  refine k_i 0 (by decide +kernel) ?_
  refine lv_if_eq (tgt := 50) hx hb dX0_countSets_34 (by decide) (fun _ => ?_) (fun c_ => absurd (by decide +kernel) c_)
  refine lv_iinc (v := 22) (lv' := [(6, .int 22), (5, .int 1), (4, .int 0), (2, .long 1), (0, .ref a0), (1, .ref a1)]) hx hb dX0_countSets_50 hl (k := 0) rfl (by decide +kernel) (by decide) rfl (fun ls hl => ?_)
  refine lv_goto (tgt := 19) hx hb dX0_countSets_53 (by decide) ?_
  refine lv_iload hx hb dX0_countSets_19 (lv_at hl 0 rfl) ?_
  refine lv_bipush (v := 64) hx hb dX0_countSets_21 (by decide) ?_
  refine lv_icmp_ge (tgt := 56) hx hb dX0_countSets_23 (by decide) (fun c_ => absurd c_ (by decide +kernel)) (fun _ => ?_)
  refine lv_lload_n hx hb dX0_countSets_26 rfl (lv_at hl 3 rfl) ?_
  refine lv_iload hx hb dX0_countSets_27 (lv_at hl 0 rfl) ?_
  refine lv_lshr (v := 0) hx hb dX0_countSets_29 (by decide +kernel) ?_
  refine lv_lconst (v := 1) hx hb dX0_countSets_30 (by decide) ?_
  refine lv_land hx hb dX0_countSets_31 ?_
  refine k_l 0 (by decide +kernel) ?_
  refine lv_lconst (v := 0) hx hb dX0_countSets_32 (by decide) ?_
  refine W.lcmp hx hb dX0_countSets_33 ?_
  refine k_i 0 (by decide +kernel) ?_
  refine lv_if_eq (tgt := 50) hx hb dX0_countSets_34 (by decide) (fun _ => ?_) (fun c_ => absurd (by decide +kernel) c_)
  refine lv_iinc (v := 23) (lv' := [(6, .int 23), (5, .int 1), (4, .int 0), (2, .long 1), (0, .ref a0), (1, .ref a1)]) hx hb dX0_countSets_50 hl (k := 0) rfl (by decide +kernel) (by decide) rfl (fun ls hl => ?_)
  refine lv_goto (tgt := 19) hx hb dX0_countSets_53 (by decide) ?_
  refine lv_iload hx hb dX0_countSets_19 (lv_at hl 0 rfl) ?_
  refine lv_bipush (v := 64) hx hb dX0_countSets_21 (by decide) ?_
  refine lv_icmp_ge (tgt := 56) hx hb dX0_countSets_23 (by decide) (fun c_ => absurd c_ (by decide +kernel)) (fun _ => ?_)
  refine lv_lload_n hx hb dX0_countSets_26 rfl (lv_at hl 3 rfl) ?_
  refine lv_iload hx hb dX0_countSets_27 (lv_at hl 0 rfl) ?_
  refine lv_lshr (v := 0) hx hb dX0_countSets_29 (by decide +kernel) ?_
  refine lv_lconst (v := 1) hx hb dX0_countSets_30 (by decide) ?_
  refine lv_land hx hb dX0_countSets_31 ?_
  refine k_l 0 (by decide +kernel) ?_
  refine lv_lconst (v := 0) hx hb dX0_countSets_32 (by decide) ?_
  refine W.lcmp hx hb dX0_countSets_33 ?_
  refine k_i 0 (by decide +kernel) ?_
  refine lv_if_eq (tgt := 50) hx hb dX0_countSets_34 (by decide) (fun _ => ?_) (fun c_ => absurd (by decide +kernel) c_)
  refine lv_iinc (v := 24) (lv' := [(6, .int 24), (5, .int 1), (4, .int 0), (2, .long 1), (0, .ref a0), (1, .ref a1)]) hx hb dX0_countSets_50 hl (k := 0) rfl (by decide +kernel) (by decide) rfl (fun ls hl => ?_)
  refine lv_goto (tgt := 19) hx hb dX0_countSets_53 (by decide) ?_
  refine lv_iload hx hb dX0_countSets_19 (lv_at hl 0 rfl) ?_
  refine lv_bipush (v := 64) hx hb dX0_countSets_21 (by decide) ?_
  refine lv_icmp_ge (tgt := 56) hx hb dX0_countSets_23 (by decide) (fun c_ => absurd c_ (by decide +kernel)) (fun _ => ?_)
  refine lv_lload_n hx hb dX0_countSets_26 rfl (lv_at hl 3 rfl) ?_
  refine lv_iload hx hb dX0_countSets_27 (lv_at hl 0 rfl) ?_
  refine lv_lshr (v := 0) hx hb dX0_countSets_29 (by decide +kernel) ?_
  refine lv_lconst (v := 1) hx hb dX0_countSets_30 (by decide) ?_
  refine lv_land hx hb dX0_countSets_31 ?_
  refine k_l 0 (by decide +kernel) ?_
  refine lv_lconst (v := 0) hx hb dX0_countSets_32 (by decide) ?_
  refine W.lcmp hx hb dX0_countSets_33 ?_
  refine k_i 0 (by decide +kernel) ?_
  refine lv_if_eq (tgt := 50) hx hb dX0_countSets_34 (by decide) (fun _ => ?_) (fun c_ => absurd (by decide +kernel) c_)
  refine lv_iinc (v := 25) (lv' := [(6, .int 25), (5, .int 1), (4, .int 0), (2, .long 1), (0, .ref a0), (1, .ref a1)]) hx hb dX0_countSets_50 hl (k := 0) rfl (by decide +kernel) (by decide) rfl (fun ls hl => ?_)
  refine lv_goto (tgt := 19) hx hb dX0_countSets_53 (by decide) ?_
  refine lv_iload hx hb dX0_countSets_19 (lv_at hl 0 rfl) ?_
  refine lv_bipush (v := 64) hx hb dX0_countSets_21 (by decide) ?_
  refine lv_icmp_ge (tgt := 56) hx hb dX0_countSets_23 (by decide) (fun c_ => absurd c_ (by decide +kernel)) (fun _ => ?_)
  refine lv_lload_n hx hb dX0_countSets_26 rfl (lv_at hl 3 rfl) ?_
  refine lv_iload hx hb dX0_countSets_27 (lv_at hl 0 rfl) ?_
  refine lv_lshr (v := 0) hx hb dX0_countSets_29 (by decide +kernel) ?_
  refine lv_lconst (v := 1) hx hb dX0_countSets_30 (by decide) ?_
  refine lv_land hx hb dX0_countSets_31 ?_
  refine k_l 0 (by decide +kernel) ?_
  refine lv_lconst (v := 0) hx hb dX0_countSets_32 (by decide) ?_
  refine W.lcmp hx hb dX0_countSets_33 ?_
  refine k_i 0 (by decide +kernel) ?_
  refine lv_if_eq (tgt := 50) hx hb dX0_countSets_34 (by decide) (fun _ => ?_) (fun c_ => absurd (by decide +kernel) c_)
  refine lv_iinc (v := 26) (lv' := [(6, .int 26), (5, .int 1), (4, .int 0), (2, .long 1), (0, .ref a0), (1, .ref a1)]) hx hb dX0_countSets_50 hl (k := 0) rfl (by decide +kernel) (by decide) rfl (fun ls hl => ?_)
  refine lv_goto (tgt := 19) hx hb dX0_countSets_53 (by decide) ?_
  refine lv_iload hx hb dX0_countSets_19 (lv_at hl 0 rfl) ?_
  refine lv_bipush (v := 64) hx hb dX0_countSets_21 (by decide) ?_
  refine lv_icmp_ge (tgt := 56) hx hb dX0_countSets_23 (by decide) (fun c_ => absurd c_ (by decide +kernel)) (fun _ => ?_)
  refine lv_lload_n hx hb dX0_countSets_26 rfl (lv_at hl 3 rfl) ?_
  refine lv_iload hx hb dX0_countSets_27 (lv_at hl 0 rfl) ?_
  refine lv_lshr (v := 0) hx hb dX0_countSets_29 (by decide +kernel) ?_
  refine lv_lconst (v := 1) hx hb dX0_countSets_30 (by decide) ?_
  refine lv_land hx hb dX0_countSets_31 ?_
  refine k_l 0 (by decide +kernel) ?_
  refine lv_lconst (v := 0) hx hb dX0_countSets_32 (by decide) ?_
  refine W.lcmp hx hb dX0_countSets_33 ?_
  refine k_i 0 (by decide +kernel) ?_
  refine lv_if_eq (tgt := 50) hx hb dX0_countSets_34 (by decide) (fun _ => ?_) (fun c_ => absurd (by decide +kernel) c_)
  refine lv_iinc (v := 27) (lv' := [(6, .int 27), (5, .int 1), (4, .int 0), (2, .long 1), (0, .ref a0), (1, .ref a1)]) hx hb dX0_countSets_50 hl (k := 0) rfl (by decide +kernel) (by decide) rfl (fun ls hl => ?_)
  refine lv_goto (tgt := 19) hx hb dX0_countSets_53 (by decide) ?_
  refine lv_iload hx hb dX0_countSets_19 (lv_at hl 0 rfl) ?_
  refine lv_bipush (v := 64) hx hb dX0_countSets_21 (by decide) ?_
  refine lv_icmp_ge (tgt := 56) hx hb dX0_countSets_23 (by decide) (fun c_ => absurd c_ (by decide +kernel)) (fun _ => ?_)
  refine lv_lload_n hx hb dX0_countSets_26 rfl (lv_at hl 3 rfl) ?_
  refine lv_iload hx hb dX0_countSets_27 (lv_at hl 0 rfl) ?_
  refine lv_lshr (v := 0) hx hb dX0_countSets_29 (by decide +kernel) ?_
  refine lv_lconst (v := 1) hx hb dX0_countSets_30 (by decide) ?_
  refine lv_land hx hb dX0_countSets_31 ?_
  refine k_l 0 (by decide +kernel) ?_
  refine lv_lconst (v := 0) hx hb dX0_countSets_32 (by decide) ?_
  refine W.lcmp hx hb dX0_countSets_33 ?_
  refine k_i 0 (by decide +kernel) ?_
  refine lv_if_eq (tgt := 50) hx hb dX0_countSets_34 (by decide) (fun _ => ?_) (fun c_ => absurd (by decide +kernel) c_)
  refine lv_iinc (v := 28) (lv' := [(6, .int 28), (5, .int 1), (4, .int 0), (2, .long 1), (0, .ref a0), (1, .ref a1)]) hx hb dX0_countSets_50 hl (k := 0) rfl (by decide +kernel) (by decide) rfl (fun ls hl => ?_)
  refine lv_goto (tgt := 19) hx hb dX0_countSets_53 (by decide) ?_
  refine lv_iload hx hb dX0_countSets_19 (lv_at hl 0 rfl) ?_
  refine lv_bipush (v := 64) hx hb dX0_countSets_21 (by decide) ?_
  refine lv_icmp_ge (tgt := 56) hx hb dX0_countSets_23 (by decide) (fun c_ => absurd c_ (by decide +kernel)) (fun _ => ?_)
  refine lv_lload_n hx hb dX0_countSets_26 rfl (lv_at hl 3 rfl) ?_
  refine lv_iload hx hb dX0_countSets_27 (lv_at hl 0 rfl) ?_
  refine lv_lshr (v := 0) hx hb dX0_countSets_29 (by decide +kernel) ?_
  refine lv_lconst (v := 1) hx hb dX0_countSets_30 (by decide) ?_
  refine lv_land hx hb dX0_countSets_31 ?_
  refine k_l 0 (by decide +kernel) ?_
  refine lv_lconst (v := 0) hx hb dX0_countSets_32 (by decide) ?_
  refine W.lcmp hx hb dX0_countSets_33 ?_
  refine k_i 0 (by decide +kernel) ?_
  refine lv_if_eq (tgt := 50) hx hb dX0_countSets_34 (by decide) (fun _ => ?_) (fun c_ => absurd (by decide +kernel) c_)
  refine lv_iinc (v := 29) (lv' := [(6, .int 29), (5, .int 1), (4, .int 0), (2, .long 1), (0, .ref a0), (1, .ref a1)]) hx hb dX0_countSets_50 hl (k := 0) rfl (by decide +kernel) (by decide) rfl (fun ls hl => ?_)
  refine lv_goto (tgt := 19) hx hb dX0_countSets_53 (by decide) ?_
  refine lv_iload hx hb dX0_countSets_19 (lv_at hl 0 rfl) ?_
  refine lv_bipush (v := 64) hx hb dX0_countSets_21 (by decide) ?_
  refine lv_icmp_ge (tgt := 56) hx hb dX0_countSets_23 (by decide) (fun c_ => absurd c_ (by decide +kernel)) (fun _ => ?_)
  refine lv_lload_n hx hb dX0_countSets_26 rfl (lv_at hl 3 rfl) ?_
  refine lv_iload hx hb dX0_countSets_27 (lv_at hl 0 rfl) ?_
  refine lv_lshr (v := 0) hx hb dX0_countSets_29 (by decide +kernel) ?_
  refine lv_lconst (v := 1) hx hb dX0_countSets_30 (by decide) ?_
  refine lv_land hx hb dX0_countSets_31 ?_
  refine k_l 0 (by decide +kernel) ?_
  refine lv_lconst (v := 0) hx hb dX0_countSets_32 (by decide) ?_
  refine W.lcmp hx hb dX0_countSets_33 ?_
  refine k_i 0 (by decide +kernel) ?_
  refine lv_if_eq (tgt := 50) hx hb dX0_countSets_34 (by decide) (fun _ => ?_) (fun c_ => absurd (by decide +kernel) c_)
  refine lv_iinc (v := 30) (lv' := [(6, .int 30), (5, .int 1), (4, .int 0), (2, .long 1), (0, .ref a0), (1, .ref a1)]) hx hb dX0_countSets_50 hl (k := 0) rfl (by decide +kernel) (by decide) rfl (fun ls hl => ?_)
  refine lv_goto (tgt := 19) hx hb dX0_countSets_53 (by decide) ?_
  refine lv_iload hx hb dX0_countSets_19 (lv_at hl 0 rfl) ?_
  refine lv_bipush (v := 64) hx hb dX0_countSets_21 (by decide) ?_
  refine lv_icmp_ge (tgt := 56) hx hb dX0_countSets_23 (by decide) (fun c_ => absurd c_ (by decide +kernel)) (fun _ => ?_)
  refine lv_lload_n hx hb dX0_countSets_26 rfl (lv_at hl 3 rfl) ?_
  refine lv_iload hx hb dX0_countSets_27 (lv_at hl 0 rfl) ?_
  refine lv_lshr (v := 0) hx hb dX0_countSets_29 (by decide +kernel) ?_
  refine lv_lconst (v := 1) hx hb dX0_countSets_30 (by decide) ?_
  refine lv_land hx hb dX0_countSets_31 ?_
  refine k_l 0 (by decide +kernel) ?_
  refine lv_lconst (v := 0) hx hb dX0_countSets_32 (by decide) ?_
  refine W.lcmp hx hb dX0_countSets_33 ?_
  refine k_i 0 (by decide +kernel) ?_
  refine lv_if_eq (tgt := 50) hx hb dX0_countSets_34 (by decide) (fun _ => ?_) (fun c_ => absurd (by decide +kernel) c_)
  refine lv_iinc (v := 31) (lv' := [(6, .int 31), (5, .int 1), (4, .int 0), (2, .long 1), (0, .ref a0), (1, .ref a1)]) hx hb dX0_countSets_50 hl (k := 0) rfl (by decide +kernel) (by decide) rfl (fun ls hl => ?_)
  refine lv_goto (tgt := 19) hx hb dX0_countSets_53 (by decide) ?_
  refine lv_iload hx hb dX0_countSets_19 (lv_at hl 0 rfl) ?_
  refine lv_bipush (v := 64) hx hb dX0_countSets_21 (by decide) ?_
  refine lv_icmp_ge (tgt := 56) hx hb dX0_countSets_23 (by decide) (fun c_ => absurd c_ (by decide +kernel)) (fun _ => ?_)
  refine lv_lload_n hx hb dX0_countSets_26 rfl (lv_at hl 3 rfl) ?_
  refine lv_iload hx hb dX0_countSets_27 (lv_at hl 0 rfl) ?_
  refine lv_lshr (v := 0) hx hb dX0_countSets_29 (by decide +kernel) ?_
  refine lv_lconst (v := 1) hx hb dX0_countSets_30 (by decide) ?_
  refine lv_land hx hb dX0_countSets_31 ?_
  refine k_l 0 (by decide +kernel) ?_
  refine lv_lconst (v := 0) hx hb dX0_countSets_32 (by decide) ?_
  refine W.lcmp hx hb dX0_countSets_33 ?_
  refine k_i 0 (by decide +kernel) ?_
  refine lv_if_eq (tgt := 50) hx hb dX0_countSets_34 (by decide) (fun _ => ?_) (fun c_ => absurd (by decide +kernel) c_)
  refine lv_iinc (v := 32) (lv' := [(6, .int 32), (5, .int 1), (4, .int 0), (2, .long 1), (0, .ref a0), (1, .ref a1)]) hx hb dX0_countSets_50 hl (k := 0) rfl (by decide +kernel) (by decide) rfl (fun ls hl => ?_)
  refine lv_goto (tgt := 19) hx hb dX0_countSets_53 (by decide) ?_
  refine lv_iload hx hb dX0_countSets_19 (lv_at hl 0 rfl) ?_
  refine lv_bipush (v := 64) hx hb dX0_countSets_21 (by decide) ?_
  refine lv_icmp_ge (tgt := 56) hx hb dX0_countSets_23 (by decide) (fun c_ => absurd c_ (by decide +kernel)) (fun _ => ?_)
  refine lv_lload_n hx hb dX0_countSets_26 rfl (lv_at hl 3 rfl) ?_
  refine lv_iload hx hb dX0_countSets_27 (lv_at hl 0 rfl) ?_
  refine lv_lshr (v := 0) hx hb dX0_countSets_29 (by decide +kernel) ?_
  refine lv_lconst (v := 1) hx hb dX0_countSets_30 (by decide) ?_
  refine lv_land hx hb dX0_countSets_31 ?_
  refine k_l 0 (by decide +kernel) ?_
  refine lv_lconst (v := 0) hx hb dX0_countSets_32 (by decide) ?_
  refine W.lcmp hx hb dX0_countSets_33 ?_
  refine k_i 0 (by decide +kernel) ?_
  refine lv_if_eq (tgt := 50) hx hb dX0_countSets_34 (by decide) (fun _ => ?_) (fun c_ => absurd (by decide +kernel) c_)
  refine lv_iinc (v := 33) (lv' := [(6, .int 33), (5, .int 1), (4, .int 0), (2, .long 1), (0, .ref a0), (1, .ref a1)]) hx hb dX0_countSets_50 hl (k := 0) rfl (by decide +kernel) (by decide) rfl (fun ls hl => ?_)
  refine lv_goto (tgt := 19) hx hb dX0_countSets_53 (by decide) ?_
  refine lv_iload hx hb dX0_countSets_19 (lv_at hl 0 rfl) ?_
  refine lv_bipush (v := 64) hx hb dX0_countSets_21 (by decide) ?_
  refine lv_icmp_ge (tgt := 56) hx hb dX0_countSets_23 (by decide) (fun c_ => absurd c_ (by decide +kernel)) (fun _ => ?_)
  refine lv_lload_n hx hb dX0_countSets_26 rfl (lv_at hl 3 rfl) ?_
  refine lv_iload hx hb dX0_countSets_27 (lv_at hl 0 rfl) ?_
  refine lv_lshr (v := 0) hx hb dX0_countSets_29 (by decide +kernel) ?_
  refine lv_lconst (v := 1) hx hb dX0_countSets_30 (by decide) ?_
  refine lv_land hx hb dX0_countSets_31 ?_
  refine k_l 0 (by decide +kernel) ?_
  refine lv_lconst (v := 0) hx hb dX0_countSets_32 (by decide) ?_
  refine W.lcmp hx hb dX0_countSets_33 ?_
  refine k_i 0 (by decide +kernel) ?_
  refine lv_if_eq (tgt := 50) hx hb dX0_countSets_34 (by decide) (fun _ => ?_) (fun c_ => absurd (by decide +kernel) c_)
  refine lv_iinc (v := 34) (lv' := [(6, .int 34), (5, .int 1), (4, .int 0), (2, .long 1), (0, .ref a0), (1, .ref a1)]) hx hb dX0_countSets_50 hl (k := 0) rfl (by decide +kernel) (by decide) rfl (fun ls hl => ?_)
  refine lv_goto (tgt := 19) hx hb dX0_countSets_53 (by decide) ?_
  refine lv_iload hx hb dX0_countSets_19 (lv_at hl 0 rfl) ?_
  refine lv_bipush (v := 64) hx hb dX0_countSets_21 (by decide) ?_
  refine lv_icmp_ge (tgt := 56) hx hb dX0_countSets_23 (by decide) (fun c_ => absurd c_ (by decide +kernel)) (fun _ => ?_)
  refine lv_lload_n hx hb dX0_countSets_26 rfl (lv_at hl 3 rfl) ?_
  refine lv_iload hx hb dX0_countSets_27 (lv_at hl 0 rfl) ?_
  refine lv_lshr (v := 0) hx hb dX0_countSets_29 (by decide +kernel) ?_
  refine lv_lconst (v := 1) hx hb dX0_countSets_30 (by decide) ?_
  refine lv_land hx hb dX0_countSets_31 ?_
  refine k_l 0 (by decide +kernel) ?_
  refine lv_lconst (v := 0) hx hb dX0_countSets_32 (by decide) ?_
  refine W.lcmp hx hb dX0_countSets_33 ?_
  refine k_i 0 (by decide +kernel) ?_
  refine lv_if_eq (tgt := 50) hx hb dX0_countSets_34 (by decide) (fun _ => ?_) (fun c_ => absurd (by decide +kernel) c_)
  refine lv_iinc (v := 35) (lv' := [(6, .int 35), (5, .int 1), (4, .int 0), (2, .long 1), (0, .ref a0), (1, .ref a1)]) hx hb dX0_countSets_50 hl (k := 0) rfl (by decide +kernel) (by decide) rfl (fun ls hl => ?_)
  refine lv_goto (tgt := 19) hx hb dX0_countSets_53 (by decide) ?_
  refine lv_iload hx hb dX0_countSets_19 (lv_at hl 0 rfl) ?_
  refine lv_bipush (v := 64) hx hb dX0_countSets_21 (by decide) ?_
  refine lv_icmp_ge (tgt := 56) hx hb dX0_countSets_23 (by decide) (fun c_ => absurd c_ (by decide +kernel)) (fun _ => ?_)
  refine lv_lload_n hx hb dX0_countSets_26 rfl (lv_at hl 3 rfl) ?_
  refine lv_iload hx hb dX0_countSets_27 (lv_at hl 0 rfl) ?_
  refine lv_lshr (v := 0) hx hb dX0_countSets_29 (by decide +kernel) ?_
  refine lv_lconst (v := 1) hx hb dX0_countSets_30 (by decide) ?_
  refine lv_land hx hb dX0_countSets_31 ?_
  refine k_l 0 (by decide +kernel) ?_
  refine lv_lconst (v := 0) hx hb dX0_countSets_32 (by decide) ?_
  refine W.lcmp hx hb dX0_countSets_33 ?_
  refine k_i 0 (by decide +kernel) ?_
  refine lv_if_eq (tgt := 50) hx hb dX0_countSets_34 (by decide) (fun _ => ?_) (fun c_ => absurd (by decide +kernel) c_)
  refine lv_iinc (v := 36) (lv' := [(6, .int 36), (5, .int 1), (4, .int 0), (2, .long 1), (0, .ref a0), (1, .ref a1)]) hx hb dX0_countSets_50 hl (k := 0) rfl (by decide +kernel) (by decide) rfl (fun ls hl => ?_)
  refine lv_goto (tgt := 19) hx hb dX0_countSets_53 (by decide) ?_
  refine lv_iload hx hb dX0_countSets_19 (lv_at hl 0 rfl) ?_
  refine lv_bipush (v := 64) hx hb dX0_countSets_21 (by decide) ?_
  refine lv_icmp_ge (tgt := 56) hx hb dX0_countSets_23 (by decide) (fun c_ => absurd c_ (by decide +kernel)) (fun _ => ?_)
  refine lv_lload_n hx hb dX0_countSets_26 rfl (lv_at hl 3 rfl) ?_
  refine lv_iload hx hb dX0_countSets_27 (lv_at hl 0 rfl) ?_
  refine lv_lshr (v := 0) hx hb dX0_countSets_29 (by decide +kernel) ?_
  refine lv_lconst (v := 1) hx hb dX0_countSets_30 (by decide) ?_
  refine lv_land hx hb dX0_countSets_31 ?_
  refine k_l 0 (by decide +kernel) ?_
  refine lv_lconst (v := 0) hx hb dX0_countSets_32 (by decide) ?_
  refine W.lcmp hx hb dX0_countSets_33 ?_
  refine k_i 0 (by decide +kernel) ?_
  refine lv_if_eq (tgt := 50) hx hb dX0_countSets_34 (by decide) (fun _ => ?_) (fun c_ => absurd (by decide +kernel) c_)
  refine lv_iinc (v := 37) (lv' := [(6, .int 37), (5, .int 1), (4, .int 0), (2, .long 1), (0, .ref a0), (1, .ref a1)]) hx hb dX0_countSets_50 hl (k := 0) rfl (by decide +kernel) (by decide) rfl (fun ls hl => ?_)
  refine lv_goto (tgt := 19) hx hb dX0_countSets_53 (by decide) ?_
  refine lv_iload hx hb dX0_countSets_19 (lv_at hl 0 rfl) ?_
  refine lv_bipush (v := 64) hx hb dX0_countSets_21 (by decide) ?_
  refine lv_icmp_ge (tgt := 56) hx hb dX0_countSets_23 (by decide) (fun c_ => absurd c_ (by decide +kernel)) (fun _ => ?_)
  refine lv_lload_n hx hb dX0_countSets_26 rfl (lv_at hl 3 rfl) ?_
  refine lv_iload hx hb dX0_countSets_27 (lv_at hl 0 rfl) ?_
  refine lv_lshr (v := 0) hx hb dX0_countSets_29 (by decide +kernel) ?_
  refine lv_lconst (v := 1) hx hb dX0_countSets_30 (by decide) ?_
  refine lv_land hx hb dX0_countSets_31 ?_
  refine k_l 0 (by decide +kernel) ?_
  refine lv_lconst (v := 0) hx hb dX0_countSets_32 (by decide) ?_
  refine W.lcmp hx hb dX0_countSets_33 ?_
  refine k_i 0 (by decide +kernel) ?_
  refine lv_if_eq (tgt := 50) hx hb dX0_countSets_34 (by decide) (fun _ => ?_) (fun c_ => absurd (by decide +kernel) c_)
  refine lv_iinc (v := 38) (lv' := [(6, .int 38), (5, .int 1), (4, .int 0), (2, .long 1), (0, .ref a0), (1, .ref a1)]) hx hb dX0_countSets_50 hl (k := 0) rfl (by decide +kernel) (by decide) rfl (fun ls hl => ?_)
  refine lv_goto (tgt := 19) hx hb dX0_countSets_53 (by decide) ?_
  refine lv_iload hx hb dX0_countSets_19 (lv_at hl 0 rfl) ?_
  refine lv_bipush (v := 64) hx hb dX0_countSets_21 (by decide) ?_
  refine lv_icmp_ge (tgt := 56) hx hb dX0_countSets_23 (by decide) (fun c_ => absurd c_ (by decide +kernel)) (fun _ => ?_)
  refine lv_lload_n hx hb dX0_countSets_26 rfl (lv_at hl 3 rfl) ?_
  refine lv_iload hx hb dX0_countSets_27 (lv_at hl 0 rfl) ?_
  refine lv_lshr (v := 0) hx hb dX0_countSets_29 (by decide +kernel) ?_
  refine lv_lconst (v := 1) hx hb dX0_countSets_30 (by decide) ?_
  refine lv_land hx hb dX0_countSets_31 ?_
  refine k_l 0 (by decide +kernel) ?_
  refine lv_lconst (v := 0) hx hb dX0_countSets_32 (by decide) ?_
  refine W.lcmp hx hb dX0_countSets_33 ?_
  refine k_i 0 (by decide +kernel) ?_
  refine lv_if_eq (tgt := 50) hx hb dX0_countSets_34 (by decide) (fun _ => ?_) (fun c_ => absurd (by decide +kernel) c_)
  refine lv_iinc (v := 39) (lv' := [(6, .int 39), (5, .int 1), (4, .int 0), (2, .long 1), (0, .ref a0), (1, .ref a1)]) hx hb dX0_countSets_50 hl (k := 0) rfl (by decide +kernel) (by decide) rfl (fun ls hl => ?_)
  refine lv_goto (tgt := 19) hx hb dX0_countSets_53 (by decide) ?_
  refine lv_iload hx hb dX0_countSets_19 (lv_at hl 0 rfl) ?_
  refine lv_bipush (v := 64) hx hb dX0_countSets_21 (by decide) ?_
  refine lv_icmp_ge (tgt := 56) hx hb dX0_countSets_23 (by decide) (fun c_ => absurd c_ (by decide +kernel)) (fun _ => ?_)
  refine lv_lload_n hx hb dX0_countSets_26 rfl (lv_at hl 3 rfl) ?_
  refine lv_iload hx hb dX0_countSets_27 (lv_at hl 0 rfl) ?_
  refine lv_lshr (v := 0) hx hb dX0_countSets_29 (by decide +kernel) ?_
  refine lv_lconst (v := 1) hx hb dX0_countSets_30 (by decide) ?_
  refine lv_land hx hb dX0_countSets_31 ?_
  refine k_l 0 (by decide +kernel) ?_
  refine lv_lconst (v := 0) hx hb dX0_countSets_32 (by decide) ?_
  refine W.lcmp hx hb dX0_countSets_33 ?_
  refine k_i 0 (by decide +kernel) ?_
  refine lv_if_eq (tgt := 50) hx hb dX0_countSets_34 (by decide) (fun _ => ?_) (fun c_ => absurd (by decide +kernel) c_)
  refine lv_iinc (v := 40) (lv' := [(6, .int 40), (5, .int 1), (4, .int 0), (2, .long 1), (0, .ref a0), (1, .ref a1)]) hx hb dX0_countSets_50 hl (k := 0) rfl (by decide +kernel) (by decide) rfl (fun ls hl => ?_)
  refine lv_goto (tgt := 19) hx hb dX0_countSets_53 (by decide) ?_
  refine lv_iload hx hb dX0_countSets_19 (lv_at hl 0 rfl) ?_
  refine lv_bipush (v := 64) hx hb dX0_countSets_21 (by decide) ?_
  refine lv_icmp_ge (tgt := 56) hx hb dX0_countSets_23 (by decide) (fun c_ => absurd c_ (by decide +kernel)) (fun _ => ?_)
  refine lv_lload_n hx hb dX0_countSets_26 rfl (lv_at hl 3 rfl) ?_
  refine lv_iload hx hb dX0_countSets_27 (lv_at hl 0 rfl) ?_
  refine lv_lshr (v := 0) hx hb dX0_countSets_29 (by decide +kernel) ?_
  refine lv_lconst (v := 1) hx hb dX0_countSets_30 (by decide) ?_
  refine lv_land hx hb dX0_countSets_31 ?_
  refine k_l 0 (by decide +kernel) ?_
  refine lv_lconst (v := 0) hx hb dX0_countSets_32 (by decide) ?_
  refine W.lcmp hx hb dX0_countSets_33 ?_
  refine k_i 0 (by decide +kernel) ?_
  refine lv_if_eq (tgt := 50) hx hb dX0_countSets_34 (by decide) (fun _ => ?_) (fun c_ => absurd (by decide +kernel) c_)
  refine lv_iinc (v := 41) (lv' := [(6, .int 41), (5, .int 1), (4, .int 0), (2, .long 1), (0, .ref a0), (1, .ref a1)]) hx hb dX0_countSets_50 hl (k := 0) rfl (by decide +kernel) (by decide) rfl (fun ls hl => ?_)
  refine lv_goto (tgt := 19) hx hb dX0_countSets_53 (by decide) ?_
  refine lv_iload hx hb dX0_countSets_19 (lv_at hl 0 rfl) ?_
  refine lv_bipush (v := 64) hx hb dX0_countSets_21 (by decide) ?_
  refine lv_icmp_ge (tgt := 56) hx hb dX0_countSets_23 (by decide) (fun c_ => absurd c_ (by decide +kernel)) (fun _ => ?_)
  refine lv_lload_n hx hb dX0_countSets_26 rfl (lv_at hl 3 rfl) ?_
  refine lv_iload hx hb dX0_countSets_27 (lv_at hl 0 rfl) ?_
  refine lv_lshr (v := 0) hx hb dX0_countSets_29 (by decide +kernel) ?_
  refine lv_lconst (v := 1) hx hb dX0_countSets_30 (by decide) ?_
  refine lv_land hx hb dX0_countSets_31 ?_
  refine k_l 0 (by decide +kernel) ?_
  refine lv_lconst (v := 0) hx hb dX0_countSets_32 (by decide) ?_
  refine W.lcmp hx hb dX0_countSets_33 ?_
  refine k_i 0 (by decide +kernel) ?_
  refine lv_if_eq (tgt := 50) hx hb dX0_countSets_34 (by decide) (fun _ => ?_) (fun c_ => absurd (by decide +kernel) c_)
  refine lv_iinc (v := 42) (lv' := [(6, .int 42), (5, .int 1), (4, .int 0), (2, .long 1), (0, .ref a0), (1, .ref a1)]) hx hb dX0_countSets_50 hl (k := 0) rfl (by decide +kernel) (by decide) rfl (fun ls hl => ?_)
  refine lv_goto (tgt := 19) hx hb dX0_countSets_53 (by decide) ?_
  refine lv_iload hx hb dX0_countSets_19 (lv_at hl 0 rfl) ?_
  refine lv_bipush (v := 64) hx hb dX0_countSets_21 (by decide) ?_
  refine lv_icmp_ge (tgt := 56) hx hb dX0_countSets_23 (by decide) (fun c_ => absurd c_ (by decide +kernel)) (fun _ => ?_)
  refine lv_lload_n hx hb dX0_countSets_26 rfl (lv_at hl 3 rfl) ?_
  refine lv_iload hx hb dX0_countSets_27 (lv_at hl 0 rfl) ?_
  refine lv_lshr (v := 0) hx hb dX0_countSets_29 (by decide +kernel) ?_
  refine lv_lconst (v := 1) hx hb dX0_countSets_30 (by decide) ?_
  refine lv_land hx hb dX0_countSets_31 ?_
  refine k_l 0 (by decide +kernel) ?_
  refine lv_lconst (v := 0) hx hb dX0_countSets_32 (by decide) ?_
  refine W.lcmp hx hb dX0_countSets_33 ?_
  refine k_i 0 (by decide +kernel) ?_
  refine lv_if_eq (tgt := 50) hx hb dX0_countSets_34 (by decide) (fun _ => ?_) (fun c_ => absurd (by decide +kernel) c_)
  refine lv_iinc (v := 43) (lv' := [(6, .int 43), (5, .int 1), (4, .int 0), (2, .long 1), (0, .ref a0), (1, .ref a1)]) hx hb dX0_countSets_50 hl (k := 0) rfl (by decide +kernel) (by decide) rfl (fun ls hl => ?_)
  refine lv_goto (tgt := 19) hx hb dX0_countSets_53 (by decide) ?_
  refine lv_iload hx hb dX0_countSets_19 (lv_at hl 0 rfl) ?_
  refine lv_bipush (v := 64) hx hb dX0_countSets_21 (by decide) ?_
  refine lv_icmp_ge (tgt := 56) hx hb dX0_countSets_23 (by decide) (fun c_ => absurd c_ (by decide +kernel)) (fun _ => ?_)
  refine lv_lload_n hx hb dX0_countSets_26 rfl (lv_at hl 3 rfl) ?_
  refine lv_iload hx hb dX0_countSets_27 (lv_at hl 0 rfl) ?_
  refine lv_lshr (v := 0) hx hb dX0_countSets_29 (by decide +kernel) ?_
  refine lv_lconst (v := 1) hx hb dX0_countSets_30 (by decide) ?_
  refine lv_land hx hb dX0_countSets_31 ?_
  refine k_l 0 (by decide +kernel) ?_
  refine lv_lconst (v := 0) hx hb dX0_countSets_32 (by decide) ?_
  refine W.lcmp hx hb dX0_countSets_33 ?_
  refine k_i 0 (by decide +kernel) ?_
  refine lv_if_eq (tgt := 50) hx hb dX0_countSets_34 (by decide) (fun _ => ?_) (fun c_ => absurd (by decide +kernel) c_)
  refine lv_iinc (v := 44) (lv' := [(6, .int 44), (5, .int 1), (4, .int 0), (2, .long 1), (0, .ref a0), (1, .ref a1)]) hx hb dX0_countSets_50 hl (k := 0) rfl (by decide +kernel) (by decide) rfl (fun ls hl => ?_)
  refine lv_goto (tgt := 19) hx hb dX0_countSets_53 (by decide) ?_
  refine lv_iload hx hb dX0_countSets_19 (lv_at hl 0 rfl) ?_
  refine lv_bipush (v := 64) hx hb dX0_countSets_21 (by decide) ?_
  refine lv_icmp_ge (tgt := 56) hx hb dX0_countSets_23 (by decide) (fun c_ => absurd c_ (by decide +kernel)) (fun _ => ?_)
  refine lv_lload_n hx hb dX0_countSets_26 rfl (lv_at hl 3 rfl) ?_
  refine lv_iload hx hb dX0_countSets_27 (lv_at hl 0 rfl) ?_
  refine lv_lshr (v := 0) hx hb dX0_countSets_29 (by decide +kernel) ?_
  refine lv_lconst (v := 1) hx hb dX0_countSets_30 (by decide) ?_
  refine lv_land hx hb dX0_countSets_31 ?_
  refine k_l 0 (by decide +kernel) ?_
  refine lv_lconst (v := 0) hx hb dX0_countSets_32 (by decide) ?_
  refine W.lcmp hx hb dX0_countSets_33 ?_
  refine k_i 0 (by decide +kernel) ?_
  refine lv_if_eq (tgt := 50) hx hb dX0_countSets_34 (by decide) (fun _ => ?_) (fun c_ => absurd (by decide +kernel) c_)
  refine lv_iinc (v := 45) (lv' := [(6, .int 45), (5, .int 1), (4, .int 0), (2, .long 1), (0, .ref a0), (1, .ref a1)]) hx hb dX0_countSets_50 hl (k := 0) rfl (by decide +kernel) (by decide) rfl (fun ls hl => ?_)
  refine lv_goto (tgt := 19) hx hb dX0_countSets_53 (by decide) ?_
  refine lv_iload hx hb dX0_countSets_19 (lv_at hl 0 rfl) ?_
  refine lv_bipush (v := 64) hx hb dX0_countSets_21 (by decide) ?_
  refine lv_icmp_ge (tgt := 56) hx hb dX0_countSets_23 (by decide) (fun c_ => absurd c_ (by decide +kernel)) (fun _ => ?_)
  refine lv_lload_n hx hb dX0_countSets_26 rfl (lv_at hl 3 rfl) ?_
  refine lv_iload hx hb dX0_countSets_27 (lv_at hl 0 rfl) ?_
  refine lv_lshr (v := 0) hx hb dX0_countSets_29 (by decide +kernel) ?_
  refine lv_lconst (v := 1) hx hb dX0_countSets_30 (by decide) ?_
  refine lv_land hx hb dX0_countSets_31 ?_
  refine k_l 0 (by decide +kernel) ?_
  refine lv_lconst (v := 0) hx hb dX0_countSets_32 (by decide) ?_
  refine W.lcmp hx hb dX0_countSets_33 ?_
  refine k_i 0 (by decide +kernel) ?_
  refine lv_if_eq (tgt := 50) hx hb dX0_countSets_34 (by decide) (fun _ => ?_) (fun c_ => absurd (by decide +kernel) c_)
  refine lv_iinc (v := 46) (lv' := [(6, .int 46), (5, .int 1), (4, .int 0), (2, .long 1), (0, .ref a0), (1, .ref a1)]) hx hb dX0_countSets_50 hl (k := 0) rfl (by decide +kernel) (by decide) rfl (fun ls hl => ?_)
  refine lv_goto (tgt := 19) hx hb dX0_countSets_53 (by decide) ?_
  refine lv_iload hx hb dX0_countSets_19 (lv_at hl 0 rfl) ?_
  refine lv_bipush (v := 64) hx hb dX0_countSets_21 (by decide) ?_
  refine lv_icmp_ge (tgt := 56) hx hb dX0_countSets_23 (by decide) (fun c_ => absurd c_ (by decide +kernel)) (fun _ => ?_)
  refine lv_lload_n hx hb dX0_countSets_26 rfl (lv_at hl 3 rfl) ?_
  refine lv_iload hx hb dX0_countSets_27 (lv_at hl 0 rfl) ?_
  refine lv_lshr (v := 0) hx hb dX0_countSets_29 (by decide +kernel) ?_
  refine lv_lconst (v := 1) hx hb dX0_countSets_30 (by decide) ?_
  refine lv_land hx hb dX0_countSets_31 ?_
  refine k_l 0 (by decide +kernel) ?_
  refine lv_lconst (v := 0) hx hb dX0_countSets_32 (by decide) ?_
  refine W.lcmp hx hb dX0_countSets_33 ?_
  refine k_i 0 (by decide +kernel) ?_
  refine lv_if_eq (tgt := 50) hx hb dX0_countSets_34 (by decide) (fun _ => ?_) (fun c_ => absurd (by decide +kernel) c_)
  refine lv_iinc (v := 47) (lv' := [(6, .int 47), (5, .int 1), (4, .int 0), (2, .long 1), (0, .ref a0), (1, .ref a1)]) hx hb dX0_countSets_50 hl (k := 0) rfl (by decide +kernel) (by decide) rfl (fun ls hl => ?_)
  refine lv_goto (tgt := 19) hx hb dX0_countSets_53 (by decide) ?_
  refine lv_iload hx hb dX0_countSets_19 (lv_at hl 0 rfl) ?_
  refine lv_bipush (v := 64) hx hb dX0_countSets_21 (by decide) ?_
  refine lv_icmp_ge (tgt := 56) hx hb dX0_countSets_23 (by decide) (fun c_ => absurd c_ (by decide +kernel)) (fun _ => ?_)
  refine lv_lload_n hx hb dX0_countSets_26 rfl (lv_at hl 3 rfl) ?_
  refine lv_iload hx hb dX0_countSets_27 (lv_at hl 0 rfl) ?_
  refine lv_lshr (v := 0) hx hb dX0_countSets_29 (by decide +kernel) ?_
  refine lv_lconst (v := 1) hx hb dX0_countSets_30 (by decide) ?_
  refine lv_land hx hb dX0_countSets_31 ?_
  refine k_l 0 (by decide +kernel) ?_
  refine lv_lconst (v := 0) hx hb dX0_countSets_32 (by decide) ?_
  refine W.lcmp hx hb dX0_countSets_33 ?_
  refine k_i 0 (by decide +kernel) ?_
  refine lv_if_eq (tgt := 50) hx hb dX0_countSets_34 (by decide) (fun _ => ?_) (fun c_ => absurd (by decide +kernel) c_)
  refine lv_iinc (v := 48) (lv' := [(6, .int 48), (5, .int 1), (4, .int 0), (2, .long 1), (0, .ref a0), (1, .ref a1)]) hx hb dX0_countSets_50 hl (k := 0) rfl (by decide +kernel) (by decide) rfl (fun ls hl => ?_)
  refine lv_goto (tgt := 19) hx hb dX0_countSets_53 (by decide) ?_
  refine lv_iload hx hb dX0_countSets_19 (lv_at hl 0 rfl) ?_
  refine lv_bipush (v := 64) hx hb dX0_countSets_21 (by decide) ?_
  refine lv_icmp_ge (tgt := 56) hx hb dX0_countSets_23 (by decide) (fun c_ => absurd c_ (by decide +kernel)) (fun _ => ?_)
  refine lv_lload_n hx hb dX0_countSets_26 rfl (lv_at hl 3 rfl) ?_
  refine lv_iload hx hb dX0_countSets_27 (lv_at hl 0 rfl) ?_
  refine lv_lshr (v := 0) hx hb dX0_countSets_29 (by decide +kernel) ?_
  refine lv_lconst (v := 1) hx hb dX0_countSets_30 (by decide) ?_
  refine lv_land hx hb dX0_countSets_31 ?_
  refine k_l 0 (by decide +kernel) ?_
  refine lv_lconst (v := 0) hx hb dX0_countSets_32 (by decide) ?_
  refine W.lcmp hx hb dX0_countSets_33 ?_
  refine k_i 0 (by decide +kernel) ?_
  refine lv_if_eq (tgt := 50) hx hb dX0_countSets_34 (by decide) (fun _ => ?_) (fun c_ => absurd (by decide +kernel) c_)
  refine lv_iinc (v := 49) (lv' := [(6, .int 49), (5, .int 1), (4, .int 0), (2, .long 1), (0, .ref a0), (1, .ref a1)]) hx hb dX0_countSets_50 hl (k := 0) rfl (by decide +kernel) (by decide) rfl (fun ls hl => ?_)
  refine lv_goto (tgt := 19) hx hb dX0_countSets_53 (by decide) ?_
  refine lv_iload hx hb dX0_countSets_19 (lv_at hl 0 rfl) ?_
  refine lv_bipush (v := 64) hx hb dX0_countSets_21 (by decide) ?_
  refine lv_icmp_ge (tgt := 56) hx hb dX0_countSets_23 (by decide) (fun c_ => absurd c_ (by decide +kernel)) (fun _ => ?_)
  refine lv_lload_n hx hb dX0_countSets_26 rfl (lv_at hl 3 rfl) ?_
  refine lv_iload hx hb dX0_countSets_27 (lv_at hl 0 rfl) ?_
  refine lv_lshr (v := 0) hx hb dX0_countSets_29 (by decide +kernel) ?_
  refine lv_lconst (v := 1) hx hb dX0_countSets_30 (by decide) ?_
  refine lv_land hx hb dX0_countSets_31 ?_
  refine k_l 0 (by decide +kernel) ?_
  refine lv_lconst (v := 0) hx hb dX0_countSets_32 (by decide) ?_
  refine W.lcmp hx hb dX0_countSets_33 ?_
  refine k_i 0 (by decide +kernel) ?_
  refine lv_if_eq (tgt := 50) hx hb dX0_countSets_34 (by decide) (fun _ => ?_) (fun c_ => absurd (by decide +kernel) c_)
  refine lv_iinc (v := 50) (lv' := [(6, .int 50), (5, .int 1), (4, .int 0), (2, .long 1), (0, .ref a0), (1, .ref a1)]) hx hb dX0_countSets_50 hl (k := 0) rfl (by decide +kernel) (by decide) rfl (fun ls hl => ?_)
  refine lv_goto (tgt := 19) hx hb dX0_countSets_53 (by decide) ?_
  refine lv_iload hx hb dX0_countSets_19 (lv_at hl 0 rfl) ?_
  refine lv_bipush (v := 64) hx hb dX0_countSets_21 (by decide) ?_
  refine lv_icmp_ge (tgt := 56) hx hb dX0_countSets_23 (by decide) (fun c_ => absurd c_ (by decide +kernel)) (fun _ => ?_)
  refine lv_lload_n hx hb dX0_countSets_26 rfl (lv_at hl 3 rfl) ?_
  refine lv_iload hx hb dX0_countSets_27 (lv_at hl 0 rfl) ?_
  refine lv_lshr (v := 0) hx hb dX0_countSets_29 (by decide +kernel) ?_
  refine lv_lconst (v := 1) hx hb dX0_countSets_30 (by decide) ?_
  refine lv_land hx hb dX0_countSets_31 ?_
  refine k_l 0 (by decide +kernel) ?_
  refine lv_lconst (v := 0) hx hb dX0_countSets_32 (by decide) ?_
  refine W.lcmp hx hb dX0_countSets_33 ?_
  refine k_i 0 (by decide +kernel) ?_
  refine lv_if_eq (tgt := 50) hx hb dX0_countSets_34 (by decide) (fun _ => ?_) (fun c_ => absurd (by decide +kernel) c_)
  refine lv_iinc (v := 51) (lv' := [(6, .int 51), (5, .int 1), (4, .int 0), (2, .long 1), (0, .ref a0), (1, .ref a1)]) hx hb dX0_countSets_50 hl (k := 0) rfl (by decide +kernel) (by decide) rfl (fun ls hl => ?_)
  refine lv_goto (tgt := 19) hx hb dX0_countSets_53 (by decide) ?_
  refine lv_iload hx hb dX0_countSets_19 (lv_at hl 0 rfl) ?_
  refine lv_bipush (v := 64) hx hb dX0_countSets_21 (by decide) ?_
  refine lv_icmp_ge (tgt := 56) hx hb dX0_countSets_23 (by decide) (fun c_ => absurd c_ (by decide +kernel)) (fun _ => ?_)
  refine lv_lload_n hx hb dX0_countSets_26 rfl (lv_at hl 3 rfl) ?_
  refine lv_iload hx hb dX0_countSets_27 (lv_at hl 0 rfl) ?_
  refine lv_lshr (v := 0) hx hb dX0_countSets_29 (by decide +kernel) ?_
  refine lv_lconst (v := 1) hx hb dX0_countSets_30 (by decide) ?_
  refine lv_land hx hb dX0_countSets_31 ?_
  refine k_l 0 (by decide +kernel) ?_
  refine lv_lconst (v := 0) hx hb dX0_countSets_32 (by decide) ?_
  refine W.lcmp hx hb dX0_countSets_33 ?_
  refine k_i 0 (by decide +kernel) ?_
  refine lv_if_eq (tgt := 50) hx hb dX0_countSets_34 (by decide) (fun _ => ?_) (fun c_ => absurd (by decide +kernel) c_)
  refine lv_iinc (v := 52) (lv' := [(6, .int 52), (5, .int 1), (4, .int 0), (2, .long 1), (0, .ref a0), (1, .ref a1)]) hx hb dX0_countSets_50 hl (k := 0) rfl (by decide +kernel) (by decide) rfl (fun ls hl => ?_)
  refine lv_goto (tgt := 19) hx hb dX0_countSets_53 (by decide) ?_
  refine lv_iload hx hb dX0_countSets_19 (lv_at hl 0 rfl) ?_
  refine lv_bipush (v := 64) hx hb dX0_countSets_21 (by decide) ?_
  refine lv_icmp_ge (tgt := 56) hx hb dX0_countSets_23 (by decide) (fun c_ => absurd c_ (by decide +kernel)) (fun _ => ?_)
  refine lv_lload_n hx hb dX0_countSets_26 rfl (lv_at hl 3 rfl) ?_
  refine lv_iload hx hb dX0_countSets_27 (lv_at hl 0 rfl) ?_
  refine lv_lshr (v := 0) hx hb dX0_countSets_29 (by decide +kernel) ?_
  refine lv_lconst (v := 1) hx hb dX0_countSets_30 (by decide) ?_
  refine lv_land hx hb dX0_countSets_31 ?_
  refine k_l 0 (by decide +kernel) ?_
  refine lv_lconst (v := 0) hx hb dX0_countSets_32 (by decide) ?_
  refine W.lcmp hx hb dX0_countSets_33 ?_
  refine k_i 0 (by decide +kernel) ?_
  refine lv_if_eq (tgt := 50) hx hb dX0_countSets_34 (by decide) (fun _ => ?_) (fun c_ => absurd (by decide +kernel) c_)
  refine lv_iinc (v := 53) (lv' := [(6, .int 53), (5, .int 1), (4, .int 0), (2, .long 1), (0, .ref a0), (1, .ref a1)]) hx hb dX0_countSets_50 hl (k := 0) rfl (by decide +kernel) (by decide) rfl (fun ls hl => ?_)
  refine lv_goto (tgt := 19) hx hb dX0_countSets_53 (by decide) ?_
  refine lv_iload hx hb dX0_countSets_19 (lv_at hl 0 rfl) ?_
  refine lv_bipush (v := 64) hx hb dX0_countSets_21 (by decide) ?_
  refine lv_icmp_ge (tgt := 56) hx hb dX0_countSets_23 (by decide) (fun c_ => absurd c_ (by decide +kernel)) (fun _ => ?_)
  refine lv_lload_n hx hb dX0_countSets_26 rfl (lv_at hl 3 rfl) ?_
  refine lv_iload hx hb dX0_countSets_27 (lv_at hl 0 rfl) ?_
  refine lv_lshr (v := 0) hx hb dX0_countSets_29 (by decide +kernel) ?_
  refine lv_lconst (v := 1) hx hb dX0_countSets_30 (by decide) ?_
  refine lv_land hx hb dX0_countSets_31 ?_
  refine k_l 0 (by decide +kernel) ?_
  refine lv_lconst (v := 0) hx hb dX0_countSets_32 (by decide) ?_
  refine W.lcmp hx hb dX0_countSets_33 ?_
  refine k_i 0 (by decide +kernel) ?_
  refine lv_if_eq (tgt := 50) hx hb dX0_countSets_34 (by decide) (fun _ => ?_) (fun c_ => absurd (by decide +kernel) c_)
  refine lv_iinc (v := 54) (lv' := [(6, .int 54), (5, .int 1), (4, .int 0), (2, .long 1), (0, .ref a0), (1, .ref a1)]) hx hb dX0_countSets_50 hl (k := 0) rfl (by decide +kernel) (by decide) rfl (fun ls hl => ?_)
  refine lv_goto (tgt := 19) hx hb dX0_countSets_53 (by decide) ?_
  refine lv_iload hx hb dX0_countSets_19 (lv_at hl 0 rfl) ?_
  refine lv_bipush (v := 64) hx hb dX0_countSets_21 (by decide) ?_
  refine lv_icmp_ge (tgt := 56) hx hb dX0_countSets_23 (by decide) (fun c_ => absurd c_ (by decide +kernel)) (fun _ => ?_)
  refine lv_lload_n hx hb dX0_countSets_26 rfl (lv_at hl 3 rfl) ?_
  refine lv_iload hx hb dX0_countSets_27 (lv_at hl 0 rfl) ?_
  refine lv_lshr (v := 0) hx hb dX0_countSets_29 (by decide +kernel) ?_
  refine lv_lconst (v := 1) hx hb dX0_countSets_30 (by decide) ?_
  refine lv_land hx hb dX0_countSets_31 ?_
  refine k_l 0 (by decide +kernel) ?_
  refine lv_lconst (v := 0) hx hb dX0_countSets_32 (by decide) ?_
  refine W.lcmp hx hb dX0_countSets_33 ?_
  refine k_i 0 (by decide +kernel) ?_
  refine lv_if_eq (tgt := 50) hx hb dX0_countSets_34 (by decide) (fun _ => ?_) (fun c_ => absurd (by decide +kernel) c_)
  refine lv_iinc (v := 55) (lv' := [(6, .int 55), (5, .int 1), (4, .int 0), (2, .long 1), (0, .ref a0), (1, .ref a1)]) hx hb dX0_countSets_50 hl (k := 0) rfl (by decide +kernel) (by decide) rfl (fun ls hl => ?_)
  refine lv_goto (tgt := 19) hx hb dX0_countSets_53 (by decide) ?_
  refine lv_iload hx hb dX0_countSets_19 (lv_at hl 0 rfl) ?_
  refine lv_bipush (v := 64) hx hb dX0_countSets_21 (by decide) ?_
  refine lv_icmp_ge (tgt := 56) hx hb dX0_countSets_23 (by decide) (fun c_ => absurd c_ (by decide +kernel)) (fun _ => ?_)
  refine lv_lload_n hx hb dX0_countSets_26 rfl (lv_at hl 3 rfl) ?_
  refine lv_iload hx hb dX0_countSets_27 (lv_at hl 0 rfl) ?_
  refine lv_lshr (v := 0) hx hb dX0_countSets_29 (by decide +kernel) ?_
  refine lv_lconst (v := 1) hx hb dX0_countSets_30 (by decide) ?_
  refine lv_land hx hb dX0_countSets_31 ?_
  refine k_l 0 (by decide +kernel) ?_
  refine lv_lconst (v := 0) hx hb dX0_countSets_32 (by decide) ?_
  refine W.lcmp hx hb dX0_countSets_33 ?_
  refine k_i 0 (by decide +kernel) ?_
  refine lv_if_eq (tgt := 50) hx hb dX0_countSets_34 (by decide) (fun _ => ?_) (fun c_ => absurd (by decide +kernel) c_)
  refine lv_iinc (v := 56) (lv' := [(6, .int 56), (5, .int 1), (4, .int 0), (2, .long 1), (0, .ref a0), (1, .ref a1)]) hx hb dX0_countSets_50 hl (k := 0) rfl (by decide +kernel) (by decide) rfl (fun ls hl => ?_)
  refine lv_goto (tgt := 19) hx hb dX0_countSets_53 (by decide) ?_
  refine lv_iload hx hb dX0_countSets_19 (lv_at hl 0 rfl) ?_
  refine lv_bipush (v := 64) hx hb dX0_countSets_21 (by decide) ?_
  refine lv_icmp_ge (tgt := 56) hx hb dX0_countSets_23 (by decide) (fun c_ => absurd c_ (by decide +kernel)) (fun _ => ?_)
  refine lv_lload_n hx hb dX0_countSets_26 rfl (lv_at hl 3 rfl) ?_
  refine lv_iload hx hb dX0_countSets_27 (lv_at hl 0 rfl) ?_
  refine lv_lshr (v := 0) hx hb dX0_countSets_29 (by decide +kernel) ?_
  refine lv_lconst (v := 1) hx hb dX0_countSets_30 (by decide) ?_
  refine lv_land hx hb dX0_countSets_31 ?_
  refine k_l 0 (by decide +kernel) ?_
  refine lv_lconst (v := 0) hx hb dX0_countSets_32 (by decide) ?_
  refine W.lcmp hx hb dX0_countSets_33 ?_
  refine k_i 0 (by decide +kernel) ?_
  refine lv_if_eq (tgt := 50) hx hb dX0_countSets_34 (by decide) (fun _ => ?_) (fun c_ => absurd (by decide +kernel) c_)
  refine lv_iinc (v := 57) (lv' := [(6, .int 57), (5, .int 1), (4, .int 0), (2, .long 1), (0, .ref a0), (1, .ref a1)]) hx hb dX0_countSets_50 hl (k := 0) rfl (by decide +kernel) (by decide) rfl (fun ls hl => ?_)
  refine lv_goto (tgt := 19) hx hb dX0_countSets_53 (by decide) ?_
  refine lv_iload hx hb dX0_countSets_19 (lv_at hl 0 rfl) ?_
  refine lv_bipush (v := 64) hx hb dX0_countSets_21 (by decide) ?_
  refine lv_icmp_ge (tgt := 56) hx hb dX0_countSets_23 (by decide) (fun c_ => absurd c_ (by decide +kernel)) (fun _ => ?_)
  refine lv_lload_n hx hb dX0_countSets_26 rfl (lv_at hl 3 rfl) ?_
  refine lv_iload hx hb dX0_countSets_27 (lv_at hl 0 rfl) ?_
  refine lv_lshr (v := 0) hx hb dX0_countSets_29 (by decide +kernel) ?_
  refine lv_lconst (v := 1) hx hb dX0_countSets_30 (by decide) ?_
  refine lv_land hx hb dX0_countSets_31 ?_
  refine k_l 0 (by decide +kernel) ?_
  refine lv_lconst (v := 0) hx hb dX0_countSets_32 (by decide) ?_
  refine W.lcmp hx hb dX0_countSets_33 ?_
  refine k_i 0 (by decide +kernel) ?_
  refine lv_if_eq (tgt := 50) hx hb dX0_countSets_34 (by decide) (fun _ => ?_) (fun c_ => absurd (by decide +kernel) c_)
  refine lv_iinc (v := 58) (lv' := [(6, .int 58), (5, .int 1), (4, .int 0), (2, .long 1), (0, .ref a0), (1, .ref a1)]) hx hb dX0_countSets_50 hl (k := 0) rfl (by decide +kernel) (by decide) rfl (fun ls hl => ?_)
  refine lv_goto (tgt := 19) hx hb dX0_countSets_53 (by decide) ?_
  refine lv_iload hx hb dX0_countSets_19 (lv_at hl 0 rfl) ?_
  refine lv_bipush (v := 64) hx hb dX0_countSets_21 (by decide) ?_
  refine lv_icmp_ge (tgt := 56) hx hb dX0_countSets_23 (by decide) (fun c_ => absurd c_ (by decide +kernel)) (fun _ => ?_)
  refine lv_lload_n hx hb dX0_countSets_26 rfl (lv_at hl 3 rfl) ?_
  refine lv_iload hx hb dX0_countSets_27 (lv_at hl 0 rfl) ?_
  refine lv_lshr (v := 0) hx hb dX0_countSets_29 (by decide +kernel) ?_
  refine lv_lconst (v := 1) hx hb dX0_countSets_30 (by decide) ?_
  refine lv_land hx hb dX0_countSets_31 ?_
  refine k_l 0 (by decide +kernel) ?_
  refine lv_lconst (v := 0) hx hb dX0_countSets_32 (by decide) ?_
  refine W.lcmp hx hb dX0_countSets_33 ?_
  refine k_i 0 (by decide +kernel) ?_
  refine lv_if_eq (tgt := 50) hx hb dX0_countSets_34 (by decide) (fun _ => ?_) (fun c_ => absurd (by decide +kernel) c_)
  refine lv_iinc (v := 59) (lv' := [(6, .int 59), (5, .int 1), (4, .int 0), (2, .long 1), (0, .ref a0), (1, .ref a1)]) hx hb dX0_countSets_50 hl (k := 0) rfl (by decide +kernel) (by decide) rfl (fun ls hl => ?_)
  refine lv_goto (tgt := 19) hx hb dX0_countSets_53 (by decide) ?_
  refine lv_iload hx hb dX0_countSets_19 (lv_at hl 0 rfl) ?_
  refine lv_bipush (v := 64) hx hb dX0_countSets_21 (by decide) ?_
  refine lv_icmp_ge (tgt := 56) hx hb dX0_countSets_23 (by decide) (fun c_ => absurd c_ (by decide +kernel)) (fun _ => ?_)
  refine lv_lload_n hx hb dX0_countSets_26 rfl (lv_at hl 3 rfl) ?_
  refine lv_iload hx hb dX0_countSets_27 (lv_at hl 0 rfl) ?_
  refine lv_lshr (v := 0) hx hb dX0_countSets_29 (by decide +kernel) ?_
  refine lv_lconst (v := 1) hx hb dX0_countSets_30 (by decide) ?_
  refine lv_land hx hb dX0_countSets_31 ?_
  refine k_l 0 (by decide +kernel) ?_
  refine lv_lconst (v := 0) hx hb dX0_countSets_32 (by decide) ?_
  refine W.lcmp hx hb dX0_countSets_33 ?_
  refine k_i 0 (by decide +kernel) ?_
  refine lv_if_eq (tgt := 50) hx hb dX0_countSets_34 (by decide) (fun _ => ?_) (fun c_ => absurd (by decide +kernel) c_)
  refine lv_iinc (v := 60) (lv' := [(6, .int 60), (5, .int 1), (4, .int 0), (2, .long 1), (0, .ref a0), (1, .ref a1)]) hx hb dX0_countSets_50 hl (k := 0) rfl (by decide +kernel) (by decide) rfl (fun ls hl => ?_)
  refine lv_goto (tgt := 19) hx hb dX0_countSets_53 (by decide) ?_
  refine lv_iload hx hb dX0_countSets_19 (lv_at hl 0 rfl) ?_
  refine lv_bipush (v := 64) hx hb dX0_countSets_21 (by decide) ?_
  refine lv_icmp_ge (tgt := 56) hx hb dX0_countSets_23 (by decide) (fun c_ => absurd c_ (by decide +kernel)) (fun _ => ?_)
  refine lv_lload_n hx hb dX0_countSets_26 rfl (lv_at hl 3 rfl) ?_
  refine lv_iload hx hb dX0_countSets_27 (lv_at hl 0 rfl) ?_
  refine lv_lshr (v := 0) hx hb dX0_countSets_29 (by decide +kernel) ?_
  refine lv_lconst (v := 1) hx hb dX0_countSets_30 (by decide) ?_
  refine lv_land hx hb dX0_countSets_31 ?_
  refine k_l 0 (by decide +kernel) ?_
  refine lv_lconst (v := 0) hx hb dX0_countSets_32 (by decide) ?_
  refine W.lcmp hx hb dX0_countSets_33 ?_
  refine k_i 0 (by decide +kernel) ?_
  refine lv_if_eq (tgt := 50) hx hb dX0_countSets_34 (by decide) (fun _ => ?_) (fun c_ => absurd (by decide +kernel) c_)
  refine lv_iinc (v := 61) (lv' := [(6, .int 61), (5, .int 1), (4, .int 0), (2, .long 1), (0, .ref a0), (1, .ref a1)]) hx hb dX0_countSets_50 hl (k := 0) rfl (by decide +kernel) (by decide) rfl (fun ls hl => ?_)
  refine lv_goto (tgt := 19) hx hb dX0_countSets_53 (by decide) ?_
  refine lv_iload hx hb dX0_countSets_19 (lv_at hl 0 rfl) ?_
  refine lv_bipush (v := 64) hx hb dX0_countSets_21 (by decide) ?_
  refine lv_icmp_ge (tgt := 56) hx hb dX0_countSets_23 (by decide) (fun c_ => absurd c_ (by decide +kernel)) (fun _ => ?_)
  refine lv_lload_n hx hb dX0_countSets_26 rfl (lv_at hl 3 rfl) ?_
  refine lv_iload hx hb dX0_countSets_27 (lv_at hl 0 rfl) ?_
  refine lv_lshr (v := 0) hx hb dX0_countSets_29 (by decide +kernel) ?_
  refine lv_lconst (v := 1) hx hb dX0_countSets_30 (by decide) ?_
  refine lv_land hx hb dX0_countSets_31 ?_
  refine k_l 0 (by decide +kernel) ?_
  refine lv_lconst (v := 0) hx hb dX0_countSets_32 (by decide) ?_
  refine W.lcmp hx hb dX0_countSets_33 ?_
  refine k_i 0 (by decide +kernel) ?_
  refine lv_if_eq (tgt := 50) hx hb dX0_countSets_34 (by decide) (fun _ => ?_) (fun c_ => absurd (by decide +kernel) c_)
  refine lv_iinc (v := 62) (lv' := [(6, .int 62), (5, .int 1), (4, .int 0), (2, .long 1), (0, .ref a0), (1, .ref a1)]) hx hb dX0_countSets_50 hl (k := 0) rfl (by decide +kernel) (by decide) rfl (fun ls hl => ?_)
  refine lv_goto (tgt := 19) hx hb dX0_countSets_53 (by decide) ?_
  refine lv_iload hx hb dX0_countSets_19 (lv_at hl 0 rfl) ?_
  refine lv_bipush (v := 64) hx hb dX0_countSets_21 (by decide) ?_
  refine lv_icmp_ge (tgt := 56) hx hb dX0_countSets_23 (by decide) (fun c_ => absurd c_ (by decide +kernel)) (fun _ => ?_)
  refine lv_lload_n hx hb dX0_countSets_26 rfl (lv_at hl 3 rfl) ?_
  refine lv_iload hx hb dX0_countSets_27 (lv_at hl 0 rfl) ?_
  refine lv_lshr (v := 0) hx hb dX0_countSets_29 (by decide +kernel) ?_
  refine lv_lconst (v := 1) hx hb dX0_countSets_30 (by decide) ?_
  refine lv_land hx hb dX0_countSets_31 ?_
  refine k_l 0 (by decide +kernel) ?_
  refine lv_lconst (v := 0) hx hb dX0_countSets_32 (by decide) ?_
  refine W.lcmp hx hb dX0_countSets_33 ?_
  refine k_i 0 (by decide +kernel) ?_
  refine lv_if_eq (tgt := 50) hx hb dX0_countSets_34 (by decide) (fun _ => ?_) (fun c_ => absurd (by decide +kernel) c_)
  refine lv_iinc (v := 63) (lv' := [(6, .int 63), (5, .int 1), (4, .int 0), (2, .long 1), (0, .ref a0), (1, .ref a1)]) hx hb dX0_countSets_50 hl (k := 0) rfl (by decide +kernel) (by decide) rfl (fun ls hl => ?_)
  refine lv_goto (tgt := 19) hx hb dX0_countSets_53 (by decide) ?_
  refine lv_iload hx hb dX0_countSets_19 (lv_at hl 0 rfl) ?_
  refine lv_bipush (v := 64) hx hb dX0_countSets_21 (by decide) ?_
  refine lv_icmp_ge (tgt := 56) hx hb dX0_countSets_23 (by decide) (fun c_ => absurd c_ (by decide +kernel)) (fun _ => ?_)
  refine lv_lload_n hx hb dX0_countSets_26 rfl (lv_at hl 3 rfl) ?_
  refine lv_iload hx hb dX0_countSets_27 (lv_at hl 0 rfl) ?_
  refine lv_lshr (v := 0) hx hb dX0_countSets_29 (by decide +kernel) ?_
  refine lv_lconst (v := 1) hx hb dX0_countSets_30 (by decide) ?_
  refine lv_land hx hb dX0_countSets_31 ?_
  refine k_l 0 (by decide +kernel) ?_
  refine lv_lconst (v := 0) hx hb dX0_countSets_32 (by decide) ?_
  refine W.lcmp hx hb dX0_countSets_33 ?_
  refine k_i 0 (by decide +kernel) ?_
  refine lv_if_eq (tgt := 50) hx hb dX0_countSets_34 (by decide) (fun _ => ?_) (fun c_ => absurd (by decide +kernel) c_)
  refine lv_iinc (v := 64) (lv' := [(6, .int 64), (5, .int 1), (4, .int 0), (2, .long 1), (0, .ref a0), (1, .ref a1)]) hx hb dX0_countSets_50 hl (k := 0) rfl (by decide +kernel) (by decide) rfl (fun ls hl => ?_)
  refine lv_goto (tgt := 19) hx hb dX0_countSets_53 (by decide) ?_
  refine lv_iload hx hb dX0_countSets_19 (lv_at hl 0 rfl) ?_
  refine lv_bipush (v := 64) hx hb dX0_countSets_21 (by decide) ?_
  refine lv_icmp_ge (tgt := 56) hx hb dX0_countSets_23 (by decide) (fun _ => ?_) (fun c_ => absurd (by decide +kernel) c_)
  refine lv_iload hx hb dX0_countSets_56 (lv_at hl 1 rfl) ?_
  exact k_iret hC hr hlk hK hP hD hS () [2, 0, 1] rfl (by decide) rfl (Nat.le_of_ble_eq_true rfl) (Nat.le_of_ble_eq_true rfl) dX0_countSets_58
theorem dX9_sets_0 : decode cX9_sets 0 = .ok (.aload_n 0, 1) := by decide +kernel
theorem dX9_sets_1 : decode cX9_sets 1 = .ok (.iload_n 1, 1) := by decide +kernel
theorem dX9_sets_2 : decode cX9_sets 2 = .ok (.invokevirtual 125, 3) := by decide +kernel
theorem dX9_sets_5 : decode cX9_sets 5 = .ok (.istore_n 2, 1) := by decide +kernel
theorem dX9_sets_6 : decode cX9_sets 6 = .ok (.iload_n 2, 1) := by decide +kernel
theorem dX9_sets_7 : decode cX9_sets 7 = .ok (.ifCond .gt 5, 3) := by decide +kernel
theorem dX9_sets_12 : decode cX9_sets 12 = .ok (.aload_n 0, 1) := by decide +kernel
theorem dX9_sets_13 : decode cX9_sets 13 = .ok (.getfield 50, 3) := by decide +kernel
theorem dX9_sets_16 : decode cX9_sets 16 = .ok (.aload_n 0, 1) := by decide +kernel
theorem dX9_sets_17 : decode cX9_sets 17 = .ok (.getfield 10, 3) := by decide +kernel
theorem dX9_sets_20 : decode cX9_sets 20 = .ok (.invokevirtual 164, 3) := by decide +kernel
set_option maxRecDepth 100000 in
theorem wm_X9_164 : Cond.methodLink RX9 164 yX0_countSets ∈ gw := gm (List.mem_of_getElem? (i := 1015) (by decide +kernel)) rfl
set_option maxRecDepth 100000 in
theorem mi_X0_countSets : MI yX0_countSets cX0_countSets 7 (some .int) 1 := ⟨gm (List.mem_of_getElem? (i := 1018) rfl) rfl, gm (List.mem_of_getElem? (i := 121) (by decide +kernel)) rfl, by decide, by decide, by decide +kernel⟩
set_option maxRecDepth 100000 in
theorem in_X0_countSets : Cond.instanceMethod yX0_countSets ∈ gw := gm (List.mem_of_getElem? (i := 1016) (by decide +kernel)) rfl
set_option maxRecDepth 100000 in
theorem se_X0_countSets : Cond.selects yX0_countSets.cls yX0_countSets yX0_countSets ∈ gw := gm (List.mem_of_getElem? (i := 1017) (by decide +kernel)) rfl
theorem dX9_sets_23 : decode cX9_sets 23 = .ok (.ireturn, 1) := by decide +kernel
set_option maxHeartbeats 4000000 in
set_option maxRecDepth 100000 in
theorem c97_X9_sets (l : Launch) (G : va_G) (cI cJ cB cZ : ClassId) (a0 a1 a2 a3 a4 a5 a6 a7 a8 a9 a10 a11 a12 a13 a14 a15 a16 a17 a18 a19 a20 a21 a22 a23 a24 a25 a26 a27 a28 a29 a30 a31 a32 a33 a34 a35 a36 a37 a38 a39 a40 a41 a42 a43 a44 a45 a46 : Nat) (x0 : Int32) : Con l G (TY cI cJ cB cZ) yX9_sets cX9_sets 3 (some .int) ({ frames := 4, cells := 0, slots := 0, locals := 94 } : Room) [.ref a0, .int x0] [(a0, .inr (9, [.ref a1, .ref a2, .ref a3, .int 0, .int 0, .ref a4, .ref a5, .ref a6, .ref a7])), (a1, .inr (7, [.int 100, .int 100, .int 0, .ref a8, .ref a9, .int 0, .ref a10, .ref a11, .ref a12, .ref a13, .ref a14, .ref a15, .ref a16, .ref a17, .ref a18])), (a9, .inl (cI, 2, .inl (upd (upd (fun _ => 0) 0 16) 1 16))), (a8, .inl (cI, 2, .inl (upd (upd (fun _ => 0) 0 16) 1 16))), (a17, .inr (8, [.ref a19, .ref a20, .ref a21, .ref a22, .ref a23, .ref a24, .ref a25, .int 0])), (a3, .inr (8, [.ref a26, .ref a27, .ref a28, .ref a29, .ref a30, .ref a31, .ref a32, .int 0])), (a5, .inr (0, [.ref a33, .int 0, .int 0, .long 0, .int 0, .int 0, .long 0])), (a4, .inr (4, [.ref a34, .ref a5, .ref a35, .ref a36, .ref a37, .ref a38, .ref a39, .int 100, .int 0, .int 0, .int (-1)])), (a35, .inr (8, [.ref a40, .ref a41, .ref a42, .ref a43, .ref a44, .ref a45, .ref a46, .int 0])), (a36, .inl (cI, 7, .inl (fun _ => 0))), (a33, .inl (cJ, 256, .inr (.inl (fun _ => 0))))] (QI G (TY cI cJ cB cZ) (fun (r : Int32) (u : Unit) => r = 1) (fun u : Unit => [])) := by
  refine k_met (by decide) (Nat.le_of_ble_eq_true rfl) ?_
  intro p e s m below meth c A ls hC hr hlk hnm hN hK hA hP hD hS hl
  have hl : lv_has ls 3 [(0, .ref a0), (1, .int x0)] := hl
  obtain ⟨hx, hb, hml, hown, hts⟩ := id hC
  refine lv_aload_n hx hb dX9_sets_0 rfl (lv_at hl 0 rfl) ?_
  refine lv_iload_n hx hb dX9_sets_1 rfl (lv_at hl 1 rfl) ?_
  refine k_ci (wr := []) (k_rV hC hN hK hP hD (c65_X9_known l G cI cJ cB cZ a0 a1 a2 a3 a4 a5 a6 a7 a8 a9 a10 a11 a12 a13 a14 a15 a16 a17 a18 a19 a20 a21 a22 a23 a24 a25 a26 a27 a28 a29 a30 a31 a32 a33 a34 a35 a36 a37 a38 a39 a40 a41 a42 a43 a44 a45 a46 x0) [0, 1, 2, 3, 4, 5, 6, 7, 8, 9, 10] rfl (by decide) mi_X9_known in_X9_known se_X9_known wm_X9_125 9 0 rfl rfl rfl hl.1 rfl rfl (Nat.le_of_ble_eq_true rfl) ⟨(Nat.le_of_ble_eq_true rfl), (Nat.le_of_ble_eq_true rfl)⟩ dX9_sets_2 ⟨(Nat.le_of_ble_eq_true rfl), (Nat.le_of_ble_eq_true rfl)⟩) hP hD hS hA [0, 1, 2, 3, 4, 5, 6, 7, 8, 9, 10] [] rfl rfl (by decide) (by decide) (fun r1 u1 H locs hp hP hD hS => ?_)
  have hP : va_P G cl [(a0, .inr (9, [.ref a1, .ref a2, .ref a3, .int 0, .int 0, .ref a4, .ref a5, .ref a6, .ref a7])), (a1, .inr (7, [.int 100, .int 100, .int 0, .ref a8, .ref a9, .int 0, .ref a10, .ref a11, .ref a12, .ref a13, .ref a14, .ref a15, .ref a16, .ref a17, .ref a18])), (a9, .inl (cI, 2, .inl (upd (upd (fun _ => 0) 0 16) 1 16))), (a8, .inl (cI, 2, .inl (upd (upd (fun _ => 0) 0 16) 1 16))), (a17, .inr (8, [.ref a19, .ref a20, .ref a21, .ref a22, .ref a23, .ref a24, .ref a25, .int 0])), (a3, .inr (8, [.ref a26, .ref a27, .ref a28, .ref a29, .ref a30, .ref a31, .ref a32, .int 0])), (a5, .inr (0, [.ref a33, .int 1, .int 1, .long 0, .int 1, .int 0, .long 0])), (a4, .inr (4, [.ref a1, .ref a5, .ref a35, .ref a36, .ref a37, .ref a38, .ref a39, .int 100, .int 0, .int 0, .int (-1)])), (a35, .inr (8, [.ref a40, .ref a41, .ref a42, .ref a43, .ref a44, .ref a45, .ref a46, .int 0])), (a36, .inl (cI, 7, .inl (fun _ => 0))), (a33, .inl (cJ, 256, .inr (.inl (vp_updL (fun _ => 0) 0 0))))] H := hP
  have hD : va_D A [(a0, .inr (9, [.ref a1, .ref a2, .ref a3, .int 0, .int 0, .ref a4, .ref a5, .ref a6, .ref a7])), (a1, .inr (7, [.int 100, .int 100, .int 0, .ref a8, .ref a9, .int 0, .ref a10, .ref a11, .ref a12, .ref a13, .ref a14, .ref a15, .ref a16, .ref a17, .ref a18])), (a9, .inl (cI, 2, .inl (upd (upd (fun _ => 0) 0 16) 1 16))), (a8, .inl (cI, 2, .inl (upd (upd (fun _ => 0) 0 16) 1 16))), (a17, .inr (8, [.ref a19, .ref a20, .ref a21, .ref a22, .ref a23, .ref a24, .ref a25, .int 0])), (a3, .inr (8, [.ref a26, .ref a27, .ref a28, .ref a29, .ref a30, .ref a31, .ref a32, .int 0])), (a5, .inr (0, [.ref a33, .int 1, .int 1, .long 0, .int 1, .int 0, .long 0])), (a4, .inr (4, [.ref a1, .ref a5, .ref a35, .ref a36, .ref a37, .ref a38, .ref a39, .int 100, .int 0, .int 0, .int (-1)])), (a35, .inr (8, [.ref a40, .ref a41, .ref a42, .ref a43, .ref a44, .ref a45, .ref a46, .int 0])), (a36, .inl (cI, 7, .inl (fun _ => 0))), (a33, .inl (cJ, 256, .inr (.inl (vp_updL (fun _ => 0) 0 0))))] := hD
  subst hp
  refine lv_istore_n (lv' := [(2, .int 1), (0, .ref a0), (1, .int x0)]) hx hb dX9_sets_5 rfl hl (by decide) rfl (fun ls hl => ?_)
  refine lv_iload_n hx hb dX9_sets_6 rfl (lv_at hl 0 rfl) ?_
  refine lv_if_gt (tgt := 12) hx hb dX9_sets_7 (by decide) (fun _ => ?_) (fun c_ => absurd (by decide +kernel) c_)
  refine lv_aload_n hx hb dX9_sets_12 rfl (lv_at hl 1 rfl) ?_
  refine k_get hC hK hP iX9 0 6 wf_X9_50 rfl (by decide) rfl rfl dX9_sets_13 ?_
  refine lv_aload_n hx hb dX9_sets_16 rfl (lv_at hl 1 rfl) ?_
  refine k_get hC hK hP iX9 0 0 wf_X9_10 rfl (by decide) rfl rfl dX9_sets_17 ?_
  refine k_ci (wr := [(a0, .inr (9, [.ref a1, .ref a2, .ref a3, .int 0, .int 0, .ref a4, .ref a5, .ref a6, .ref a7])), (a9, .inl (cI, 2, .inl (upd (upd (fun _ => 0) 0 16) 1 16))), (a8, .inl (cI, 2, .inl (upd (upd (fun _ => 0) 0 16) 1 16))), (a17, .inr (8, [.ref a19, .ref a20, .ref a21, .ref a22, .ref a23, .ref a24, .ref a25, .int 0])), (a3, .inr (8, [.ref a26, .ref a27, .ref a28, .ref a29, .ref a30, .ref a31, .ref a32, .int 0])), (a4, .inr (4, [.ref a1, .ref a5, .ref a35, .ref a36, .ref a37, .ref a38, .ref a39, .int 100, .int 0, .int 0, .int (-1)])), (a35, .inr (8, [.ref a40, .ref a41, .ref a42, .ref a43, .ref a44, .ref a45, .ref a46, .int 0])), (a36, .inl (cI, 7, .inl (fun _ => 0)))]) (k_rV hC hN hK hP hD (c96_X0_countSets l G cI cJ cB cZ a5 a1 a33 a8 a9 a10 a11 a12 a13 a14 a15 a16 a17 a18) [6, 10, 1] rfl (by decide) mi_X0_countSets in_X0_countSets se_X0_countSets wm_X9_164 0 6 rfl rfl rfl hl.1 rfl rfl (Nat.le_of_ble_eq_true rfl) ⟨(Nat.le_of_ble_eq_true rfl), (Nat.le_of_ble_eq_true rfl)⟩ dX9_sets_20 ⟨(Nat.le_of_ble_eq_true rfl), (Nat.le_of_ble_eq_true rfl)⟩) hP hD hS hA [6, 10, 1] [0, 2, 3, 4, 5, 7, 8, 9] rfl rfl (by decide) (by decide) (fun r2 u2 H locs hp hP hD hS => ?_)
  have hP : va_P G cl [(a0, .inr (9, [.ref a1, .ref a2, .ref a3, .int 0, .int 0, .ref a4, .ref a5, .ref a6, .ref a7])), (a9, .inl (cI, 2, .inl (upd (upd (fun _ => 0) 0 16) 1 16))), (a8, .inl (cI, 2, .inl (upd (upd (fun _ => 0) 0 16) 1 16))), (a17, .inr (8, [.ref a19, .ref a20, .ref a21, .ref a22, .ref a23, .ref a24, .ref a25, .int 0])), (a3, .inr (8, [.ref a26, .ref a27, .ref a28, .ref a29, .ref a30, .ref a31, .ref a32, .int 0])), (a4, .inr (4, [.ref a1, .ref a5, .ref a35, .ref a36, .ref a37, .ref a38, .ref a39, .int 100, .int 0, .int 0, .int (-1)])), (a35, .inr (8, [.ref a40, .ref a41, .ref a42, .ref a43, .ref a44, .ref a45, .ref a46, .int 0])), (a36, .inl (cI, 7, .inl (fun _ => 0))), (a5, .inr (0, [.ref a33, .int 1, .int 1, .long 0, .int 1, .int 1, .long 1])), (a33, .inl (cJ, 256, .inr (.inl (vp_updL (fun _ => 0) 0 0)))), (a1, .inr (7, [.int 100, .int 100, .int 0, .ref a8, .ref a9, .int 0, .ref a10, .ref a11, .ref a12, .ref a13, .ref a14, .ref a15, .ref a16, .ref a17, .ref a18]))] H := hP
  have hD : va_D A [(a0, .inr (9, [.ref a1, .ref a2, .ref a3, .int 0, .int 0, .ref a4, .ref a5, .ref a6, .ref a7])), (a9, .inl (cI, 2, .inl (upd (upd (fun _ => 0) 0 16) 1 16))), (a8, .inl (cI, 2, .inl (upd (upd (fun _ => 0) 0 16) 1 16))), (a17, .inr (8, [.ref a19, .ref a20, .ref a21, .ref a22, .ref a23, .ref a24, .ref a25, .int 0])), (a3, .inr (8, [.ref a26, .ref a27, .ref a28, .ref a29, .ref a30, .ref a31, .ref a32, .int 0])), (a4, .inr (4, [.ref a1, .ref a5, .ref a35, .ref a36, .ref a37, .ref a38, .ref a39, .int 100, .int 0, .int 0, .int (-1)])), (a35, .inr (8, [.ref a40, .ref a41, .ref a42, .ref a43, .ref a44, .ref a45, .ref a46, .int 0])), (a36, .inl (cI, 7, .inl (fun _ => 0))), (a5, .inr (0, [.ref a33, .int 1, .int 1, .long 0, .int 1, .int 1, .long 1])), (a33, .inl (cJ, 256, .inr (.inl (vp_updL (fun _ => 0) 0 0)))), (a1, .inr (7, [.int 100, .int 100, .int 0, .ref a8, .ref a9, .int 0, .ref a10, .ref a11, .ref a12, .ref a13, .ref a14, .ref a15, .ref a16, .ref a17, .ref a18]))] := hD
  subst hp
  exact k_iret hC hr hlk hK hP hD hS () [] rfl (by decide) rfl (Nat.le_of_ble_eq_true rfl) (Nat.le_of_ble_eq_true rfl) dX9_sets_23
theorem dX0_setAt_0 : decode cX0_setAt 0 = .ok (.aload_n 0, 1) := by decide +kernel
theorem dX0_setAt_1 : decode cX0_setAt 1 = .ok (.aload_n 2, 1) := by decide +kernel
theorem dX0_setAt_2 : decode cX0_setAt 2 = .ok (.invokevirtual 55, 3) := by decide +kernel
theorem dX0_setAt_5 : decode cX0_setAt 5 = .ok (.lstore_n 3, 1) := by decide +kernel
theorem dX0_setAt_6 : decode cX0_setAt 6 = .ok (.aload_n 0, 1) := by decide +kernel
theorem dX0_setAt_7 : decode cX0_setAt 7 = .ok (.aload_n 2, 1) := by decide +kernel
theorem dX0_setAt_8 : decode cX0_setAt 8 = .ok (.invokevirtual 64, 3) := by decide +kernel
theorem dX0_setAt_11 : decode cX0_setAt 11 = .ok (.istore 5, 2) := by decide +kernel
theorem dX0_setAt_13 : decode cX0_setAt 13 = .ok (.iconst 0, 1) := by decide +kernel
theorem dX0_setAt_14 : decode cX0_setAt 14 = .ok (.istore 6, 2) := by decide +kernel
theorem dX0_setAt_16 : decode cX0_setAt 16 = .ok (.iconst 0, 1) := by decide +kernel
theorem dX0_setAt_17 : decode cX0_setAt 17 = .ok (.istore 7, 2) := by decide +kernel
theorem dX0_setAt_19 : decode cX0_setAt 19 = .ok (.iload 7, 2) := by decide +kernel
theorem dX0_setAt_21 : decode cX0_setAt 21 = .ok (.bipush 64, 2) := by decide +kernel
theorem dX0_setAt_23 : decode cX0_setAt 23 = .ok (.if_icmp .ge 42, 3) := by decide +kernel
theorem dX0_setAt_26 : decode cX0_setAt 26 = .ok (.lload_n 3, 1) := by decide +kernel
theorem dX0_setAt_27 : decode cX0_setAt 27 = .ok (.iload 7, 2) := by decide +kernel
theorem dX0_setAt_29 : decode cX0_setAt 29 = .ok (.lshr, 1) := by decide +kernel
theorem dX0_setAt_30 : decode cX0_setAt 30 = .ok (.lconst 1, 1) := by decide +kernel
theorem dX0_setAt_31 : decode cX0_setAt 31 = .ok (.land, 1) := by decide +kernel
theorem dX0_setAt_32 : decode cX0_setAt 32 = .ok (.lconst 0, 1) := by decide +kernel
theorem dX0_setAt_33 : decode cX0_setAt 33 = .ok (.lcmp, 1) := by decide +kernel
theorem dX0_setAt_34 : decode cX0_setAt 34 = .ok (.ifCond .eq 25, 3) := by decide +kernel
theorem dX0_setAt_37 : decode cX0_setAt 37 = .ok (.iload 7, 2) := by decide +kernel
theorem dX0_setAt_39 : decode cX0_setAt 39 = .ok (.invokestatic 58, 3) := by decide +kernel
theorem dX0_setAt_42 : decode cX0_setAt 42 = .ok (.iload 5, 2) := by decide +kernel
theorem dX0_setAt_44 : decode cX0_setAt 44 = .ok (.if_icmp .ne 15, 3) := by decide +kernel
theorem dX0_setAt_47 : decode cX0_setAt 47 = .ok (.iload 6, 2) := by decide +kernel
theorem dX0_setAt_49 : decode cX0_setAt 49 = .ok (.iload_n 1, 1) := by decide +kernel
theorem dX0_setAt_50 : decode cX0_setAt 50 = .ok (.if_icmp .ne 6, 3) := by decide +kernel
theorem dX0_setAt_56 : decode cX0_setAt 56 = .ok (.iinc 6 1, 3) := by decide +kernel
theorem dX0_setAt_59 : decode cX0_setAt 59 = .ok (.iinc 7 1, 3) := by decide +kernel
theorem dX0_setAt_62 : decode cX0_setAt 62 = .ok (.goto (-43), 3) := by decide +kernel
theorem dX0_setAt_65 : decode cX0_setAt 65 = .ok (.iconst (-1), 1) := by decide +kernel
theorem dX0_setAt_66 : decode cX0_setAt 66 = .ok (.ireturn, 1) := by decide +kernel
theorem dX0_setAt_53 : decode cX0_setAt 53 = .ok (.iload 7, 2) := by decide +kernel
theorem dX0_setAt_55 : decode cX0_setAt 55 = .ok (.ireturn, 1) := by decide +kernel
set_option maxHeartbeats 4000000 in
set_option maxRecDepth 100000 in
theorem c98_X0_setAt (l : Launch) (G : va_G) (cI cJ cB cZ : ClassId) (a0 a1 a2 a3 a4 a5 a6 a7 a8 a9 a10 a11 a12 a13 : Nat) (x0 : Int32) : Con l G (TY cI cJ cB cZ) yX0_setAt cX0_setAt 8 (some .int) ({ frames := 2, cells := 0, slots := 0, locals := 47 } : Room) [.ref a0, .int x0, .ref a1] [(a0, .inr (0, [.ref a2, .int 1, .int 1, .long 0, .int 1, .int 0, .long 0])), (a2, .inl (cJ, 256, .inr (.inl (vp_updL (fun _ => 0) 0 0)))), (a1, .inr (7, [.int 100, .int 100, .int 0, .ref a3, .ref a4, .int 0, .ref a5, .ref a6, .ref a7, .ref a8, .ref a9, .ref a10, .ref a11, .ref a12, .ref a13]))] (QI G (TY cI cJ cB cZ) (fun (r : Int32) (u : Unit) => r = sp_end x0) (fun u : Unit => [(a0, .inr (0, [.ref a2, .int 1, .int 1, .long 0, .int 1, .int 1, .long 1])), (a2, .inl (cJ, 256, .inr (.inl (vp_updL (fun _ => 0) 0 0)))), (a1, .inr (7, [.int 100, .int 100, .int 0, .ref a3, .ref a4, .int 0, .ref a5, .ref a6, .ref a7, .ref a8, .ref a9, .ref a10, .ref a11, .ref a12, .ref a13]))])) := by
  refine k_met (by decide) (Nat.le_of_ble_eq_true rfl) ?_
  intro p e s m below meth c A ls hC hr hlk hnm hN hK hA hP hD hS hl
  have hl : lv_has ls 8 [(0, .ref a0), (1, .int x0), (2, .ref a1)] := hl
  obtain ⟨hx, hb, hml, hown, hts⟩ := id hC
  refine lv_aload_n hx hb dX0_setAt_0 rfl (lv_at hl 0 rfl) ?_
  refine lv_aload_n hx hb dX0_setAt_1 rfl (lv_at hl 2 rfl) ?_
  refine k_cl (wr := []) (k_rV hC hN hK hP hD (c90_X0_liarSets l G cI cJ cB cZ a0 a1 a2 a3 a4 a5 a6 a7 a8 a9 a10 a11 a12 a13) [0, 1, 2] rfl (by decide) mi_X0_liarSets in_X0_liarSets se_X0_liarSets wm_X0_55 0 0 rfl rfl rfl hl.1 rfl rfl (Nat.le_of_ble_eq_true rfl) ⟨(Nat.le_of_ble_eq_true rfl), (Nat.le_of_ble_eq_true rfl)⟩ dX0_setAt_2 ⟨(Nat.le_of_ble_eq_true rfl), (Nat.le_of_ble_eq_true rfl)⟩) hP hD hS hA [0, 1, 2] [] rfl rfl (by decide) (by decide) (fun r1 u1 H locs hp hP hD hS => ?_)
  have hP : va_P G cl [(a0, .inr (0, [.ref a2, .int 1, .int 1, .long 0, .int 1, .int 1, .long 1])), (a2, .inl (cJ, 256, .inr (.inl (vp_updL (fun _ => 0) 0 0)))), (a1, .inr (7, [.int 100, .int 100, .int 0, .ref a3, .ref a4, .int 0, .ref a5, .ref a6, .ref a7, .ref a8, .ref a9, .ref a10, .ref a11, .ref a12, .ref a13]))] H := hP
  have hD : va_D A [(a0, .inr (0, [.ref a2, .int 1, .int 1, .long 0, .int 1, .int 1, .long 1])), (a2, .inl (cJ, 256, .inr (.inl (vp_updL (fun _ => 0) 0 0)))), (a1, .inr (7, [.int 100, .int 100, .int 0, .ref a3, .ref a4, .int 0, .ref a5, .ref a6, .ref a7, .ref a8, .ref a9, .ref a10, .ref a11, .ref a12, .ref a13]))] := hD
  subst hp
  refine lv_lstore_n (lv' := [(3, .long 1), (0, .ref a0), (1, .int x0), (2, .ref a1)]) hx hb dX0_setAt_5 rfl hl (by decide) rfl (fun ls hl => ?_)
  refine lv_aload_n hx hb dX0_setAt_6 rfl (lv_at hl 1 rfl) ?_
  refine lv_aload_n hx hb dX0_setAt_7 rfl (lv_at hl 3 rfl) ?_
  refine k_ci (wr := [(a2, .inl (cJ, 256, .inr (.inl (vp_updL (fun _ => 0) 0 0)))), (a1, .inr (7, [.int 100, .int 100, .int 0, .ref a3, .ref a4, .int 0, .ref a5, .ref a6, .ref a7, .ref a8, .ref a9, .ref a10, .ref a11, .ref a12, .ref a13]))]) (k_rV hC hN hK hP hD (c95_X0_fewestLiars l G cI cJ cB cZ a0 a1 a2) [0] rfl (by decide) mi_X0_fewestLiars in_X0_fewestLiars se_X0_fewestLiars wm_X0_64 0 0 rfl rfl rfl hl.1 rfl rfl (Nat.le_of_ble_eq_true rfl) ⟨(Nat.le_of_ble_eq_true rfl), (Nat.le_of_ble_eq_true rfl)⟩ dX0_setAt_8 ⟨(Nat.le_of_ble_eq_true rfl), (Nat.le_of_ble_eq_true rfl)⟩) hP hD hS hA [0] [1, 2] rfl rfl (by decide) (by decide) (fun r2 u2 H locs hp hP hD hS => ?_)
  have hP : va_P G cl [(a2, .inl (cJ, 256, .inr (.inl (vp_updL (fun _ => 0) 0 0)))), (a1, .inr (7, [.int 100, .int 100, .int 0, .ref a3, .ref a4, .int 0, .ref a5, .ref a6, .ref a7, .ref a8, .ref a9, .ref a10, .ref a11, .ref a12, .ref a13])), (a0, .inr (0, [.ref a2, .int 1, .int 1, .long 0, .int 1, .int 1, .long 1]))] H := hP
  have hD : va_D A [(a2, .inl (cJ, 256, .inr (.inl (vp_updL (fun _ => 0) 0 0)))), (a1, .inr (7, [.int 100, .int 100, .int 0, .ref a3, .ref a4, .int 0, .ref a5, .ref a6, .ref a7, .ref a8, .ref a9, .ref a10, .ref a11, .ref a12, .ref a13])), (a0, .inr (0, [.ref a2, .int 1, .int 1, .long 0, .int 1, .int 1, .long 1]))] := hD
  subst hp
  refine lv_istore (lv' := [(5, .int 0), (3, .long 1), (0, .ref a0), (1, .int x0), (2, .ref a1)]) hx hb dX0_setAt_11 hl (by decide) rfl (fun ls hl => ?_)
  refine lv_iconst (v := 0) hx hb dX0_setAt_13 (by decide) ?_
  refine lv_istore (lv' := [(6, .int 0), (5, .int 0), (3, .long 1), (0, .ref a0), (1, .int x0), (2, .ref a1)]) hx hb dX0_setAt_14 hl (by decide) rfl (fun ls hl => ?_)
  refine lv_iconst (v := 0) hx hb dX0_setAt_16 (by decide) ?_
  refine lv_istore (lv' := [(7, .int 0), (6, .int 0), (5, .int 0), (3, .long 1), (0, .ref a0), (1, .int x0), (2, .ref a1)]) hx hb dX0_setAt_17 hl (by decide) rfl (fun ls hl => ?_)
  refine lv_iload hx hb dX0_setAt_19 (lv_at hl 0 rfl) ?_
  refine lv_bipush (v := 64) hx hb dX0_setAt_21 (by decide) ?_
  refine lv_icmp_ge (tgt := 65) hx hb dX0_setAt_23 (by decide) (fun c_ => absurd c_ (by decide +kernel)) (fun _ => ?_)
  refine lv_lload_n hx hb dX0_setAt_26 rfl (lv_at hl 3 rfl) ?_
  refine lv_iload hx hb dX0_setAt_27 (lv_at hl 0 rfl) ?_
  refine lv_lshr (v := 1) hx hb dX0_setAt_29 (by decide +kernel) ?_
  refine lv_lconst (v := 1) hx hb dX0_setAt_30 (by decide) ?_
  refine lv_land hx hb dX0_setAt_31 ?_
  refine k_l 1 (by decide +kernel) ?_
  refine lv_lconst (v := 0) hx hb dX0_setAt_32 (by decide) ?_
  refine W.lcmp hx hb dX0_setAt_33 ?_
  refine k_i 1 (by decide +kernel) ?_
  refine lv_if_eq (tgt := 59) hx hb dX0_setAt_34 (by decide) (fun c_ => absurd c_ (by decide +kernel)) (fun _ => ?_)
  refine lv_iload hx hb dX0_setAt_37 (lv_at hl 0 rfl) ?_
  refine k_ci (wr := [(a2, .inl (cJ, 256, .inr (.inl (vp_updL (fun _ => 0) 0 0)))), (a1, .inr (7, [.int 100, .int 100, .int 0, .ref a3, .ref a4, .int 0, .ref a5, .ref a6, .ref a7, .ref a8, .ref a9, .ref a10, .ref a11, .ref a12, .ref a13])), (a0, .inr (0, [.ref a2, .int 1, .int 1, .long 0, .int 1, .int 1, .long 1]))]) (k_rS hC hN hK hP hD (c91_J6_bitCount_0f7a4 l G cI cJ cB cZ) [] rfl (by decide) mi_J6_bitCount_0f7a4 st_J6_bitCount_0f7a4 wm_X0_58 hl.1 rfl rfl (Nat.le_of_ble_eq_true rfl) ⟨(Nat.le_of_ble_eq_true rfl), (Nat.le_of_ble_eq_true rfl)⟩ dX0_setAt_39 ⟨(Nat.le_of_ble_eq_true rfl), (Nat.le_of_ble_eq_true rfl)⟩) hP hD hS hA [] [0, 1, 2] rfl rfl (by decide) (by decide) (fun r3 u3 H locs hp hP hD hS => ?_)
  have hP : va_P G cl [(a2, .inl (cJ, 256, .inr (.inl (vp_updL (fun _ => 0) 0 0)))), (a1, .inr (7, [.int 100, .int 100, .int 0, .ref a3, .ref a4, .int 0, .ref a5, .ref a6, .ref a7, .ref a8, .ref a9, .ref a10, .ref a11, .ref a12, .ref a13])), (a0, .inr (0, [.ref a2, .int 1, .int 1, .long 0, .int 1, .int 1, .long 1]))] H := hP
  have hD : va_D A [(a2, .inl (cJ, 256, .inr (.inl (vp_updL (fun _ => 0) 0 0)))), (a1, .inr (7, [.int 100, .int 100, .int 0, .ref a3, .ref a4, .int 0, .ref a5, .ref a6, .ref a7, .ref a8, .ref a9, .ref a10, .ref a11, .ref a12, .ref a13])), (a0, .inr (0, [.ref a2, .int 1, .int 1, .long 0, .int 1, .int 1, .long 1]))] := hD
  subst hp
  refine lv_iload hx hb dX0_setAt_42 (lv_at hl 2 rfl) ?_
  refine lv_icmp_ne (tgt := 59) hx hb dX0_setAt_44 (by decide) (fun c_ => absurd (by decide +kernel) c_) (fun _ => ?_)
  refine lv_iload hx hb dX0_setAt_47 (lv_at hl 1 rfl) ?_
  refine lv_iload_n hx hb dX0_setAt_49 rfl (lv_at hl 5 rfl) ?_
  refine lv_icmp_ne (tgt := 56) hx hb dX0_setAt_50 (by decide) (fun c_4 => ?_) (fun c_4 => ?_)
  · have d_4 : 0 ≠ x0.toInt := fa_ne c_4
    refine lv_iinc (v := 1) (lv' := [(6, .int 1), (7, .int 0), (5, .int 0), (3, .long 1), (0, .ref a0), (1, .int x0), (2, .ref a1)]) hx hb dX0_setAt_56 hl (k := 1) rfl (by decide +kernel) (by decide) rfl (fun ls hl => ?_)
    refine lv_iinc (v := 1) (lv' := [(7, .int 1), (6, .int 1), (5, .int 0), (3, .long 1), (0, .ref a0), (1, .int x0), (2, .ref a1)]) hx hb dX0_setAt_59 hl (k := 1) rfl (by decide +kernel) (by decide) rfl (fun ls hl => ?_)
    refine lv_goto (tgt := 19) hx hb dX0_setAt_62 (by decide) ?_
    refine lv_iload hx hb dX0_setAt_19 (lv_at hl 0 rfl) ?_
    refine lv_bipush (v := 64) hx hb dX0_setAt_21 (by decide) ?_
    refine lv_icmp_ge (tgt := 65) hx hb dX0_setAt_23 (by decide) (fun c_ => absurd c_ (by decide +kernel)) (fun _ => ?_)
    refine lv_lload_n hx hb dX0_setAt_26 rfl (lv_at hl 3 rfl) ?_
    refine lv_iload hx hb dX0_setAt_27 (lv_at hl 0 rfl) ?_
    refine lv_lshr (v := 0) hx hb dX0_setAt_29 (by decide +kernel) ?_
    refine lv_lconst (v := 1) hx hb dX0_setAt_30 (by decide) ?_
    refine lv_land hx hb dX0_setAt_31 ?_
    refine k_l 0 (by decide +kernel) ?_
    refine lv_lconst (v := 0) hx hb dX0_setAt_32 (by decide) ?_
    refine W.lcmp hx hb dX0_setAt_33 ?_
    refine k_i 0 (by decide +kernel) ?_
    refine lv_if_eq (tgt := 59) hx hb dX0_setAt_34 (by decide) (fun _ => ?_) (fun c_ => absurd (by decide +kernel) c_)
    refine lv_iinc (v := 2) (lv' := [(7, .int 2), (6, .int 1), (5, .int 0), (3, .long 1), (0, .ref a0), (1, .int x0), (2, .ref a1)]) hx hb dX0_setAt_59 hl (k := 0) rfl (by decide +kernel) (by decide) rfl (fun ls hl => ?_)
    refine lv_goto (tgt := 19) hx hb dX0_setAt_62 (by decide) ?_
    refine lv_iload hx hb dX0_setAt_19 (lv_at hl 0 rfl) ?_
    refine lv_bipush (v := 64) hx hb dX0_setAt_21 (by decide) ?_
    refine lv_icmp_ge (tgt := 65) hx hb dX0_setAt_23 (by decide) (fun c_ => absurd c_ (by decide +kernel)) (fun _ => ?_)
    refine lv_lload_n hx hb dX0_setAt_26 rfl (lv_at hl 3 rfl) ?_
    refine lv_iload hx hb dX0_setAt_27 (lv_at hl 0 rfl) ?_
    refine lv_lshr (v := 0) hx hb dX0_setAt_29 (by decide +kernel) ?_
    refine lv_lconst (v := 1) hx hb dX0_setAt_30 (by decide) ?_
    refine lv_land hx hb dX0_setAt_31 ?_
    refine k_l 0 (by decide +kernel) ?_
    refine lv_lconst (v := 0) hx hb dX0_setAt_32 (by decide) ?_
    refine W.lcmp hx hb dX0_setAt_33 ?_
    refine k_i 0 (by decide +kernel) ?_
    refine lv_if_eq (tgt := 59) hx hb dX0_setAt_34 (by decide) (fun _ => ?_) (fun c_ => absurd (by decide +kernel) c_)
    refine lv_iinc (v := 3) (lv' := [(7, .int 3), (6, .int 1), (5, .int 0), (3, .long 1), (0, .ref a0), (1, .int x0), (2, .ref a1)]) hx hb dX0_setAt_59 hl (k := 0) rfl (by decide +kernel) (by decide) rfl (fun ls hl => ?_)
    refine lv_goto (tgt := 19) hx hb dX0_setAt_62 (by decide) ?_
    refine lv_iload hx hb dX0_setAt_19 (lv_at hl 0 rfl) ?_
    refine lv_bipush (v := 64) hx hb dX0_setAt_21 (by decide) ?_
    refine lv_icmp_ge (tgt := 65) hx hb dX0_setAt_23 (by decide) (fun c_ => absurd c_ (by decide +kernel)) (fun _ => ?_)
    refine lv_lload_n hx hb dX0_setAt_26 rfl (lv_at hl 3 rfl) ?_
    refine lv_iload hx hb dX0_setAt_27 (lv_at hl 0 rfl) ?_
    refine lv_lshr (v := 0) hx hb dX0_setAt_29 (by decide +kernel) ?_
    refine lv_lconst (v := 1) hx hb dX0_setAt_30 (by decide) ?_
    refine lv_land hx hb dX0_setAt_31 ?_
    refine k_l 0 (by decide +kernel) ?_
    refine lv_lconst (v := 0) hx hb dX0_setAt_32 (by decide) ?_
    refine W.lcmp hx hb dX0_setAt_33 ?_
    refine k_i 0 (by decide +kernel) ?_
    refine lv_if_eq (tgt := 59) hx hb dX0_setAt_34 (by decide) (fun _ => ?_) (fun c_ => absurd (by decide +kernel) c_)
    refine lv_iinc (v := 4) (lv' := [(7, .int 4), (6, .int 1), (5, .int 0), (3, .long 1), (0, .ref a0), (1, .int x0), (2, .ref a1)]) hx hb dX0_setAt_59 hl (k := 0) rfl (by decide +kernel) (by decide) rfl (fun ls hl => ?_)
    refine lv_goto (tgt := 19) hx hb dX0_setAt_62 (by decide) ?_
    refine lv_iload hx hb dX0_setAt_19 (lv_at hl 0 rfl) ?_
    refine lv_bipush (v := 64) hx hb dX0_setAt_21 (by decide) ?_
    refine lv_icmp_ge (tgt := 65) hx hb dX0_setAt_23 (by decide) (fun c_ => absurd c_ (by decide +kernel)) (fun _ => ?_)
    refine lv_lload_n hx hb dX0_setAt_26 rfl (lv_at hl 3 rfl) ?_
    refine lv_iload hx hb dX0_setAt_27 (lv_at hl 0 rfl) ?_
    refine lv_lshr (v := 0) hx hb dX0_setAt_29 (by decide +kernel) ?_
    refine lv_lconst (v := 1) hx hb dX0_setAt_30 (by decide) ?_
    refine lv_land hx hb dX0_setAt_31 ?_
    refine k_l 0 (by decide +kernel) ?_
    refine lv_lconst (v := 0) hx hb dX0_setAt_32 (by decide) ?_
    refine W.lcmp hx hb dX0_setAt_33 ?_
    refine k_i 0 (by decide +kernel) ?_
    refine lv_if_eq (tgt := 59) hx hb dX0_setAt_34 (by decide) (fun _ => ?_) (fun c_ => absurd (by decide +kernel) c_)
    refine lv_iinc (v := 5) (lv' := [(7, .int 5), (6, .int 1), (5, .int 0), (3, .long 1), (0, .ref a0), (1, .int x0), (2, .ref a1)]) hx hb dX0_setAt_59 hl (k := 0) rfl (by decide +kernel) (by decide) rfl (fun ls hl => ?_)
    refine lv_goto (tgt := 19) hx hb dX0_setAt_62 (by decide) ?_
    refine lv_iload hx hb dX0_setAt_19 (lv_at hl 0 rfl) ?_
    refine lv_bipush (v := 64) hx hb dX0_setAt_21 (by decide) ?_
    refine lv_icmp_ge (tgt := 65) hx hb dX0_setAt_23 (by decide) (fun c_ => absurd c_ (by decide +kernel)) (fun _ => ?_)
    refine lv_lload_n hx hb dX0_setAt_26 rfl (lv_at hl 3 rfl) ?_
    refine lv_iload hx hb dX0_setAt_27 (lv_at hl 0 rfl) ?_
    refine lv_lshr (v := 0) hx hb dX0_setAt_29 (by decide +kernel) ?_
    refine lv_lconst (v := 1) hx hb dX0_setAt_30 (by decide) ?_
    refine lv_land hx hb dX0_setAt_31 ?_
    refine k_l 0 (by decide +kernel) ?_
    refine lv_lconst (v := 0) hx hb dX0_setAt_32 (by decide) ?_
    refine W.lcmp hx hb dX0_setAt_33 ?_
    refine k_i 0 (by decide +kernel) ?_
    refine lv_if_eq (tgt := 59) hx hb dX0_setAt_34 (by decide) (fun _ => ?_) (fun c_ => absurd (by decide +kernel) c_)
    refine lv_iinc (v := 6) (lv' := [(7, .int 6), (6, .int 1), (5, .int 0), (3, .long 1), (0, .ref a0), (1, .int x0), (2, .ref a1)]) hx hb dX0_setAt_59 hl (k := 0) rfl (by decide +kernel) (by decide) rfl (fun ls hl => ?_)
    refine lv_goto (tgt := 19) hx hb dX0_setAt_62 (by decide) ?_
    refine lv_iload hx hb dX0_setAt_19 (lv_at hl 0 rfl) ?_
    refine lv_bipush (v := 64) hx hb dX0_setAt_21 (by decide) ?_
    refine lv_icmp_ge (tgt := 65) hx hb dX0_setAt_23 (by decide) (fun c_ => absurd c_ (by decide +kernel)) (fun _ => ?_)
    refine lv_lload_n hx hb dX0_setAt_26 rfl (lv_at hl 3 rfl) ?_
    refine lv_iload hx hb dX0_setAt_27 (lv_at hl 0 rfl) ?_
    refine lv_lshr (v := 0) hx hb dX0_setAt_29 (by decide +kernel) ?_
    refine lv_lconst (v := 1) hx hb dX0_setAt_30 (by decide) ?_
    refine lv_land hx hb dX0_setAt_31 ?_
    refine k_l 0 (by decide +kernel) ?_
    refine lv_lconst (v := 0) hx hb dX0_setAt_32 (by decide) ?_
    refine W.lcmp hx hb dX0_setAt_33 ?_
    refine k_i 0 (by decide +kernel) ?_
    refine lv_if_eq (tgt := 59) hx hb dX0_setAt_34 (by decide) (fun _ => ?_) (fun c_ => absurd (by decide +kernel) c_)
    refine lv_iinc (v := 7) (lv' := [(7, .int 7), (6, .int 1), (5, .int 0), (3, .long 1), (0, .ref a0), (1, .int x0), (2, .ref a1)]) hx hb dX0_setAt_59 hl (k := 0) rfl (by decide +kernel) (by decide) rfl (fun ls hl => ?_)
    refine lv_goto (tgt := 19) hx hb dX0_setAt_62 (by decide) ?_
    refine lv_iload hx hb dX0_setAt_19 (lv_at hl 0 rfl) ?_
    refine lv_bipush (v := 64) hx hb dX0_setAt_21 (by decide) ?_
    refine lv_icmp_ge (tgt := 65) hx hb dX0_setAt_23 (by decide) (fun c_ => absurd c_ (by decide +kernel)) (fun _ => ?_)
    refine lv_lload_n hx hb dX0_setAt_26 rfl (lv_at hl 3 rfl) ?_
    refine lv_iload hx hb dX0_setAt_27 (lv_at hl 0 rfl) ?_
    refine lv_lshr (v := 0) hx hb dX0_setAt_29 (by decide +kernel) ?_
    refine lv_lconst (v := 1) hx hb dX0_setAt_30 (by decide) ?_
    refine lv_land hx hb dX0_setAt_31 ?_
    refine k_l 0 (by decide +kernel) ?_
    refine lv_lconst (v := 0) hx hb dX0_setAt_32 (by decide) ?_
    refine W.lcmp hx hb dX0_setAt_33 ?_
    refine k_i 0 (by decide +kernel) ?_
    refine lv_if_eq (tgt := 59) hx hb dX0_setAt_34 (by decide) (fun _ => ?_) (fun c_ => absurd (by decide +kernel) c_)
    refine lv_iinc (v := 8) (lv' := [(7, .int 8), (6, .int 1), (5, .int 0), (3, .long 1), (0, .ref a0), (1, .int x0), (2, .ref a1)]) hx hb dX0_setAt_59 hl (k := 0) rfl (by decide +kernel) (by decide) rfl (fun ls hl => ?_)
    refine lv_goto (tgt := 19) hx hb dX0_setAt_62 (by decide) ?_
    refine lv_iload hx hb dX0_setAt_19 (lv_at hl 0 rfl) ?_
    refine lv_bipush (v := 64) hx hb dX0_setAt_21 (by decide) ?_
    refine lv_icmp_ge (tgt := 65) hx hb dX0_setAt_23 (by decide) (fun c_ => absurd c_ (by decide +kernel)) (fun _ => ?_)
    refine lv_lload_n hx hb dX0_setAt_26 rfl (lv_at hl 3 rfl) ?_
    refine lv_iload hx hb dX0_setAt_27 (lv_at hl 0 rfl) ?_
    refine lv_lshr (v := 0) hx hb dX0_setAt_29 (by decide +kernel) ?_
    refine lv_lconst (v := 1) hx hb dX0_setAt_30 (by decide) ?_
    refine lv_land hx hb dX0_setAt_31 ?_
    refine k_l 0 (by decide +kernel) ?_
    refine lv_lconst (v := 0) hx hb dX0_setAt_32 (by decide) ?_
    refine W.lcmp hx hb dX0_setAt_33 ?_
    refine k_i 0 (by decide +kernel) ?_
    refine lv_if_eq (tgt := 59) hx hb dX0_setAt_34 (by decide) (fun _ => ?_) (fun c_ => absurd (by decide +kernel) c_)
    refine lv_iinc (v := 9) (lv' := [(7, .int 9), (6, .int 1), (5, .int 0), (3, .long 1), (0, .ref a0), (1, .int x0), (2, .ref a1)]) hx hb dX0_setAt_59 hl (k := 0) rfl (by decide +kernel) (by decide) rfl (fun ls hl => ?_)
    refine lv_goto (tgt := 19) hx hb dX0_setAt_62 (by decide) ?_
    refine lv_iload hx hb dX0_setAt_19 (lv_at hl 0 rfl) ?_
    refine lv_bipush (v := 64) hx hb dX0_setAt_21 (by decide) ?_
    refine lv_icmp_ge (tgt := 65) hx hb dX0_setAt_23 (by decide) (fun c_ => absurd c_ (by decide +kernel)) (fun _ => ?_)
    refine lv_lload_n hx hb dX0_setAt_26 rfl (lv_at hl 3 rfl) ?_
    refine lv_iload hx hb dX0_setAt_27 (lv_at hl 0 rfl) ?_
    refine lv_lshr (v := 0) hx hb dX0_setAt_29 (by decide +kernel) ?_
    refine lv_lconst (v := 1) hx hb dX0_setAt_30 (by decide) ?_
    refine lv_land hx hb dX0_setAt_31 ?_
    refine k_l 0 (by decide +kernel) ?_
    refine lv_lconst (v := 0) hx hb dX0_setAt_32 (by decide) ?_
    refine W.lcmp hx hb dX0_setAt_33 ?_
    refine k_i 0 (by decide +kernel) ?_
    refine lv_if_eq (tgt := 59) hx hb dX0_setAt_34 (by decide) (fun _ => ?_) (fun c_ => absurd (by decide +kernel) c_)
    refine lv_iinc (v := 10) (lv' := [(7, .int 10), (6, .int 1), (5, .int 0), (3, .long 1), (0, .ref a0), (1, .int x0), (2, .ref a1)]) hx hb dX0_setAt_59 hl (k := 0) rfl (by decide +kernel) (by decide) rfl (fun ls hl => ?_)
    refine lv_goto (tgt := 19) hx hb dX0_setAt_62 (by decide) ?_
    refine lv_iload hx hb dX0_setAt_19 (lv_at hl 0 rfl) ?_
    refine lv_bipush (v := 64) hx hb dX0_setAt_21 (by decide) ?_
    refine lv_icmp_ge (tgt := 65) hx hb dX0_setAt_23 (by decide) (fun c_ => absurd c_ (by decide +kernel)) (fun _ => ?_)
    refine lv_lload_n hx hb dX0_setAt_26 rfl (lv_at hl 3 rfl) ?_
    refine lv_iload hx hb dX0_setAt_27 (lv_at hl 0 rfl) ?_
    refine lv_lshr (v := 0) hx hb dX0_setAt_29 (by decide +kernel) ?_
    refine lv_lconst (v := 1) hx hb dX0_setAt_30 (by decide) ?_
    refine lv_land hx hb dX0_setAt_31 ?_
    refine k_l 0 (by decide +kernel) ?_
    refine lv_lconst (v := 0) hx hb dX0_setAt_32 (by decide) ?_
    refine W.lcmp hx hb dX0_setAt_33 ?_
    refine k_i 0 (by decide +kernel) ?_
    refine lv_if_eq (tgt := 59) hx hb dX0_setAt_34 (by decide) (fun _ => ?_) (fun c_ => absurd (by decide +kernel) c_)
    refine lv_iinc (v := 11) (lv' := [(7, .int 11), (6, .int 1), (5, .int 0), (3, .long 1), (0, .ref a0), (1, .int x0), (2, .ref a1)]) hx hb dX0_setAt_59 hl (k := 0) rfl (by decide +kernel) (by decide) rfl (fun ls hl => ?_)
    refine lv_goto (tgt := 19) hx hb dX0_setAt_62 (by decide) ?_
    refine lv_iload hx hb dX0_setAt_19 (lv_at hl 0 rfl) ?_
    refine lv_bipush (v := 64) hx hb dX0_setAt_21 (by decide) ?_
    refine lv_icmp_ge (tgt := 65) hx hb dX0_setAt_23 (by decide) (fun c_ => absurd c_ (by decide +kernel)) (fun _ => ?_)
    refine lv_lload_n hx hb dX0_setAt_26 rfl (lv_at hl 3 rfl) ?_
    refine lv_iload hx hb dX0_setAt_27 (lv_at hl 0 rfl) ?_
    refine lv_lshr (v := 0) hx hb dX0_setAt_29 (by decide +kernel) ?_
    refine lv_lconst (v := 1) hx hb dX0_setAt_30 (by decide) ?_
    refine lv_land hx hb dX0_setAt_31 ?_
    refine k_l 0 (by decide +kernel) ?_
    refine lv_lconst (v := 0) hx hb dX0_setAt_32 (by decide) ?_
    refine W.lcmp hx hb dX0_setAt_33 ?_
    refine k_i 0 (by decide +kernel) ?_
    refine lv_if_eq (tgt := 59) hx hb dX0_setAt_34 (by decide) (fun _ => ?_) (fun c_ => absurd (by decide +kernel) c_)
    refine lv_iinc (v := 12) (lv' := [(7, .int 12), (6, .int 1), (5, .int 0), (3, .long 1), (0, .ref a0), (1, .int x0), (2, .ref a1)]) hx hb dX0_setAt_59 hl (k := 0) rfl (by decide +kernel) (by decide) rfl (fun ls hl => ?_)
    refine lv_goto (tgt := 19) hx hb dX0_setAt_62 (by decide) ?_
    refine lv_iload hx hb dX0_setAt_19 (lv_at hl 0 rfl) ?_
    refine lv_bipush (v := 64) hx hb dX0_setAt_21 (by decide) ?_
    refine lv_icmp_ge (tgt := 65) hx hb dX0_setAt_23 (by decide) (fun c_ => absurd c_ (by decide +kernel)) (fun _ => ?_)
    refine lv_lload_n hx hb dX0_setAt_26 rfl (lv_at hl 3 rfl) ?_
    refine lv_iload hx hb dX0_setAt_27 (lv_at hl 0 rfl) ?_
    refine lv_lshr (v := 0) hx hb dX0_setAt_29 (by decide +kernel) ?_
    refine lv_lconst (v := 1) hx hb dX0_setAt_30 (by decide) ?_
    refine lv_land hx hb dX0_setAt_31 ?_
    refine k_l 0 (by decide +kernel) ?_
    refine lv_lconst (v := 0) hx hb dX0_setAt_32 (by decide) ?_
    refine W.lcmp hx hb dX0_setAt_33 ?_
    refine k_i 0 (by decide +kernel) ?_
    refine lv_if_eq (tgt := 59) hx hb dX0_setAt_34 (by decide) (fun _ => ?_) (fun c_ => absurd (by decide +kernel) c_)
    refine lv_iinc (v := 13) (lv' := [(7, .int 13), (6, .int 1), (5, .int 0), (3, .long 1), (0, .ref a0), (1, .int x0), (2, .ref a1)]) hx hb dX0_setAt_59 hl (k := 0) rfl (by decide +kernel) (by decide) rfl (fun ls hl => ?_)
    refine lv_goto (tgt := 19) hx hb dX0_setAt_62 (by decide) ?_
    refine lv_iload hx hb dX0_setAt_19 (lv_at hl 0 rfl) ?_
    refine lv_bipush (v := 64) hx hb dX0_setAt_21 (by decide) ?_
    refine lv_icmp_ge (tgt := 65) hx hb dX0_setAt_23 (by decide) (fun c_ => absurd c_ (by decide +kernel)) (fun _ => ?_)
    refine lv_lload_n hx hb dX0_setAt_26 rfl (lv_at hl 3 rfl) ?_
    refine lv_iload hx hb dX0_setAt_27 (lv_at hl 0 rfl) ?_
    refine lv_lshr (v := 0) hx hb dX0_setAt_29 (by decide +kernel) ?_
    refine lv_lconst (v := 1) hx hb dX0_setAt_30 (by decide) ?_
    refine lv_land hx hb dX0_setAt_31 ?_
    refine k_l 0 (by decide +kernel) ?_
    refine lv_lconst (v := 0) hx hb dX0_setAt_32 (by decide) ?_
    refine W.lcmp hx hb dX0_setAt_33 ?_
    refine k_i 0 (by decide +kernel) ?_
    refine lv_if_eq (tgt := 59) hx hb dX0_setAt_34 (by decide) (fun _ => ?_) (fun c_ => absurd (by decide +kernel) c_)
    refine lv_iinc (v := 14) (lv' := [(7, .int 14), (6, .int 1), (5, .int 0), (3, .long 1), (0, .ref a0), (1, .int x0), (2, .ref a1)]) hx hb dX0_setAt_59 hl (k := 0) rfl (by decide +kernel) (by decide) rfl (fun ls hl => ?_)
    refine lv_goto (tgt := 19) hx hb dX0_setAt_62 (by decide) ?_
    refine lv_iload hx hb dX0_setAt_19 (lv_at hl 0 rfl) ?_
    refine lv_bipush (v := 64) hx hb dX0_setAt_21 (by decide) ?_
    refine lv_icmp_ge (tgt := 65) hx hb dX0_setAt_23 (by decide) (fun c_ => absurd c_ (by decide +kernel)) (fun _ => ?_)
    refine lv_lload_n hx hb dX0_setAt_26 rfl (lv_at hl 3 rfl) ?_
    refine lv_iload hx hb dX0_setAt_27 (lv_at hl 0 rfl) ?_
    refine lv_lshr (v := 0) hx hb dX0_setAt_29 (by decide +kernel) ?_
    refine lv_lconst (v := 1) hx hb dX0_setAt_30 (by decide) ?_
    refine lv_land hx hb dX0_setAt_31 ?_
    refine k_l 0 (by decide +kernel) ?_
    refine lv_lconst (v := 0) hx hb dX0_setAt_32 (by decide) ?_
    refine W.lcmp hx hb dX0_setAt_33 ?_
    refine k_i 0 (by decide +kernel) ?_
    refine lv_if_eq (tgt := 59) hx hb dX0_setAt_34 (by decide) (fun _ => ?_) (fun c_ => absurd (by decide +kernel) c_)
    refine lv_iinc (v := 15) (lv' := [(7, .int 15), (6, .int 1), (5, .int 0), (3, .long 1), (0, .ref a0), (1, .int x0), (2, .ref a1)]) hx hb dX0_setAt_59 hl (k := 0) rfl (by decide +kernel) (by decide) rfl (fun ls hl => ?_)
    refine lv_goto (tgt := 19) hx hb dX0_setAt_62 (by decide) ?_
    refine lv_iload hx hb dX0_setAt_19 (lv_at hl 0 rfl) ?_
    refine lv_bipush (v := 64) hx hb dX0_setAt_21 (by decide) ?_
    refine lv_icmp_ge (tgt := 65) hx hb dX0_setAt_23 (by decide) (fun c_ => absurd c_ (by decide +kernel)) (fun _ => ?_)
    refine lv_lload_n hx hb dX0_setAt_26 rfl (lv_at hl 3 rfl) ?_
    refine lv_iload hx hb dX0_setAt_27 (lv_at hl 0 rfl) ?_
    refine lv_lshr (v := 0) hx hb dX0_setAt_29 (by decide +kernel) ?_
    refine lv_lconst (v := 1) hx hb dX0_setAt_30 (by decide) ?_
    refine lv_land hx hb dX0_setAt_31 ?_
    refine k_l 0 (by decide +kernel) ?_
    refine lv_lconst (v := 0) hx hb dX0_setAt_32 (by decide) ?_
    refine W.lcmp hx hb dX0_setAt_33 ?_
    refine k_i 0 (by decide +kernel) ?_
    refine lv_if_eq (tgt := 59) hx hb dX0_setAt_34 (by decide) (fun _ => ?_) (fun c_ => absurd (by decide +kernel) c_)
    refine lv_iinc (v := 16) (lv' := [(7, .int 16), (6, .int 1), (5, .int 0), (3, .long 1), (0, .ref a0), (1, .int x0), (2, .ref a1)]) hx hb dX0_setAt_59 hl (k := 0) rfl (by decide +kernel) (by decide) rfl (fun ls hl => ?_)
    refine lv_goto (tgt := 19) hx hb dX0_setAt_62 (by decide) ?_
    refine lv_iload hx hb dX0_setAt_19 (lv_at hl 0 rfl) ?_
    refine lv_bipush (v := 64) hx hb dX0_setAt_21 (by decide) ?_
    refine lv_icmp_ge (tgt := 65) hx hb dX0_setAt_23 (by decide) (fun c_ => absurd c_ (by decide +kernel)) (fun _ => ?_)
    refine lv_lload_n hx hb dX0_setAt_26 rfl (lv_at hl 3 rfl) ?_
    refine lv_iload hx hb dX0_setAt_27 (lv_at hl 0 rfl) ?_
    refine lv_lshr (v := 0) hx hb dX0_setAt_29 (by decide +kernel) ?_
    refine lv_lconst (v := 1) hx hb dX0_setAt_30 (by decide) ?_
    refine lv_land hx hb dX0_setAt_31 ?_
    refine k_l 0 (by decide +kernel) ?_
    refine lv_lconst (v := 0) hx hb dX0_setAt_32 (by decide) ?_
    refine W.lcmp hx hb dX0_setAt_33 ?_
    refine k_i 0 (by decide +kernel) ?_
    refine lv_if_eq (tgt := 59) hx hb dX0_setAt_34 (by decide) (fun _ => ?_) (fun c_ => absurd (by decide +kernel) c_)
    refine lv_iinc (v := 17) (lv' := [(7, .int 17), (6, .int 1), (5, .int 0), (3, .long 1), (0, .ref a0), (1, .int x0), (2, .ref a1)]) hx hb dX0_setAt_59 hl (k := 0) rfl (by decide +kernel) (by decide) rfl (fun ls hl => ?_)
    refine lv_goto (tgt := 19) hx hb dX0_setAt_62 (by decide) ?_
    refine lv_iload hx hb dX0_setAt_19 (lv_at hl 0 rfl) ?_
    refine lv_bipush (v := 64) hx hb dX0_setAt_21 (by decide) ?_
    refine lv_icmp_ge (tgt := 65) hx hb dX0_setAt_23 (by decide) (fun c_ => absurd c_ (by decide +kernel)) (fun _ => ?_)
    refine lv_lload_n hx hb dX0_setAt_26 rfl (lv_at hl 3 rfl) ?_
    refine lv_iload hx hb dX0_setAt_27 (lv_at hl 0 rfl) ?_
    refine lv_lshr (v := 0) hx hb dX0_setAt_29 (by decide +kernel) ?_
    refine lv_lconst (v := 1) hx hb dX0_setAt_30 (by decide) ?_
    refine lv_land hx hb dX0_setAt_31 ?_
    refine k_l 0 (by decide +kernel) ?_
    refine lv_lconst (v := 0) hx hb dX0_setAt_32 (by decide) ?_
    refine W.lcmp hx hb dX0_setAt_33 ?_
    refine k_i 0 (by decide +kernel) ?_
    refine lv_if_eq (tgt := 59) hx hb dX0_setAt_34 (by decide) (fun _ => ?_) (fun c_ => absurd (by decide +kernel) c_)
    refine lv_iinc (v := 18) (lv' := [(7, .int 18), (6, .int 1), (5, .int 0), (3, .long 1), (0, .ref a0), (1, .int x0), (2, .ref a1)]) hx hb dX0_setAt_59 hl (k := 0) rfl (by decide +kernel) (by decide) rfl (fun ls hl => ?_)
    refine lv_goto (tgt := 19) hx hb dX0_setAt_62 (by decide) ?_
    refine lv_iload hx hb dX0_setAt_19 (lv_at hl 0 rfl) ?_
    refine lv_bipush (v := 64) hx hb dX0_setAt_21 (by decide) ?_
    refine lv_icmp_ge (tgt := 65) hx hb dX0_setAt_23 (by decide) (fun c_ => absurd c_ (by decide +kernel)) (fun _ => ?_)
    refine lv_lload_n hx hb dX0_setAt_26 rfl (lv_at hl 3 rfl) ?_
    refine lv_iload hx hb dX0_setAt_27 (lv_at hl 0 rfl) ?_
    refine lv_lshr (v := 0) hx hb dX0_setAt_29 (by decide +kernel) ?_
    refine lv_lconst (v := 1) hx hb dX0_setAt_30 (by decide) ?_
    refine lv_land hx hb dX0_setAt_31 ?_
    refine k_l 0 (by decide +kernel) ?_
    refine lv_lconst (v := 0) hx hb dX0_setAt_32 (by decide) ?_
    refine W.lcmp hx hb dX0_setAt_33 ?_
    refine k_i 0 (by decide +kernel) ?_
    refine lv_if_eq (tgt := 59) hx hb dX0_setAt_34 (by decide) (fun _ => ?_) (fun c_ => absurd (by decide +kernel) c_)
    refine lv_iinc (v := 19) (lv' := [(7, .int 19), (6, .int 1), (5, .int 0), (3, .long 1), (0, .ref a0), (1, .int x0), (2, .ref a1)]) hx hb dX0_setAt_59 hl (k := 0) rfl (by decide +kernel) (by decide) rfl (fun ls hl => ?_)
    refine lv_goto (tgt := 19) hx hb dX0_setAt_62 (by decide) ?_
    refine lv_iload hx hb dX0_setAt_19 (lv_at hl 0 rfl) ?_
    refine lv_bipush (v := 64) hx hb dX0_setAt_21 (by decide) ?_
    refine lv_icmp_ge (tgt := 65) hx hb dX0_setAt_23 (by decide) (fun c_ => absurd c_ (by decide +kernel)) (fun _ => ?_)
    refine lv_lload_n hx hb dX0_setAt_26 rfl (lv_at hl 3 rfl) ?_
    refine lv_iload hx hb dX0_setAt_27 (lv_at hl 0 rfl) ?_
    refine lv_lshr (v := 0) hx hb dX0_setAt_29 (by decide +kernel) ?_
    refine lv_lconst (v := 1) hx hb dX0_setAt_30 (by decide) ?_
    refine lv_land hx hb dX0_setAt_31 ?_
    refine k_l 0 (by decide +kernel) ?_
    refine lv_lconst (v := 0) hx hb dX0_setAt_32 (by decide) ?_
    refine W.lcmp hx hb dX0_setAt_33 ?_
    refine k_i 0 (by decide +kernel) ?_
    refine lv_if_eq (tgt := 59) hx hb dX0_setAt_34 (by decide) (fun _ => ?_) (fun c_ => absurd (by decide +kernel) c_)
    refine lv_iinc (v := 20) (lv' := [(7, .int 20), (6, .int 1), (5, .int 0), (3, .long 1), (0, .ref a0), (1, .int x0), (2, .ref a1)]) hx hb dX0_setAt_59 hl (k := 0) rfl (by decide +kernel) (by decide) rfl (fun ls hl => ?_)
    refine lv_goto (tgt := 19) hx hb dX0_setAt_62 (by decide) ?_
    refine lv_iload hx hb dX0_setAt_19 (lv_at hl 0 rfl) ?_
    refine lv_bipush (v := 64) hx hb dX0_setAt_21 (by decide) ?_
    refine lv_icmp_ge (tgt := 65) hx hb dX0_setAt_23 (by decide) (fun c_ => absurd c_ (by decide +kernel)) (fun _ => ?_)
    refine lv_lload_n hx hb dX0_setAt_26 rfl (lv_at hl 3 rfl) ?_
    refine lv_iload hx hb dX0_setAt_27 (lv_at hl 0 rfl) ?_
    refine lv_lshr (v := 0) hx hb dX0_setAt_29 (by decide +kernel) ?_
    refine lv_lconst (v := 1) hx hb dX0_setAt_30 (by decide) ?_
    refine lv_land hx hb dX0_setAt_31 ?_
    refine k_l 0 (by decide +kernel) ?_
    refine lv_lconst (v := 0) hx hb dX0_setAt_32 (by decide) ?_
    refine W.lcmp hx hb dX0_setAt_33 ?_
    refine k_i 0 (by decide +kernel) ?_
    refine lv_if_eq (tgt := 59) hx hb dX0_setAt_34 (by decide) (fun _ => ?_) (fun c_ => absurd (by decide +kernel) c_)
    refine lv_iinc (v := 21) (lv' := [(7, .int 21), (6, .int 1), (5, .int 0), (3, .long 1), (0, .ref a0), (1, .int x0), (2, .ref a1)]) hx hb dX0_setAt_59 hl (k := 0) rfl (by decide +kernel) (by decide) rfl (fun ls hl => ?_)
    refine lv_goto (tgt := 19) hx hb dX0_setAt_62 (by decide) ?_
    refine lv_iload hx hb dX0_setAt_19 (lv_at hl 0 rfl) ?_
    refine lv_bipush (v := 64) hx hb dX0_setAt_21 (by decide) ?_
    refine lv_icmp_ge (tgt := 65) hx hb dX0_setAt_23 (by decide) (fun c_ => absurd c_ (by decide +kernel)) (fun _ => ?_)
    refine lv_lload_n hx hb dX0_setAt_26 rfl (lv_at hl 3 rfl) ?_
    refine lv_iload hx hb dX0_setAt_27 (lv_at hl 0 rfl) ?_
    refine lv_lshr (v := 0) hx hb dX0_setAt_29 (by decide +kernel) ?_
    refine lv_lconst (v := 1) hx hb dX0_setAt_30 (by decide) ?_
    refine lv_land hx hb dX0_setAt_31 ?_
    refine k_l 0 (by decide +kernel) ?_
    refine lv_lconst (v := 0) hx hb dX0_setAt_32 (by decide) ?_
    refine W.lcmp hx hb dX0_setAt_33 ?_
    refine k_i 0 (by decide +kernel) ?_
    refine lv_if_eq (tgt := 59) hx hb dX0_setAt_34 (by decide) (fun _ => ?_) (fun c_ => absurd (by decide +kernel) c_)
    refine lv_iinc (v := 22) (lv' := [(7, .int 22), (6, .int 1), (5, .int 0), (3, .long 1), (0, .ref a0), (1, .int x0), (2, .ref a1)]) hx hb dX0_setAt_59 hl (k := 0) rfl (by decide +kernel) (by decide) rfl (fun ls hl => ?_)
    refine lv_goto (tgt := 19) hx hb dX0_setAt_62 (by decide) ?_
    refine lv_iload hx hb dX0_setAt_19 (lv_at hl 0 rfl) ?_
    refine lv_bipush (v := 64) hx hb dX0_setAt_21 (by decide) ?_
    refine lv_icmp_ge (tgt := 65) hx hb dX0_setAt_23 (by decide) (fun c_ => absurd c_ (by decide +kernel)) (fun _ => ?_)
    refine lv_lload_n hx hb dX0_setAt_26 rfl (lv_at hl 3 rfl) ?_
    refine lv_iload hx hb dX0_setAt_27 (lv_at hl 0 rfl) ?_
    refine lv_lshr (v := 0) hx hb dX0_setAt_29 (by decide +kernel) ?_
    refine lv_lconst (v := 1) hx hb dX0_setAt_30 (by decide) ?_
    refine lv_land hx hb dX0_setAt_31 ?_
    refine k_l 0 (by decide +kernel) ?_
    refine lv_lconst (v := 0) hx hb dX0_setAt_32 (by decide) ?_
    refine W.lcmp hx hb dX0_setAt_33 ?_
    refine k_i 0 (by decide +kernel) ?_
    refine lv_if_eq (tgt := 59) hx hb dX0_setAt_34 (by decide) (fun _ => ?_) (fun c_ => absurd (by decide +kernel) c_)
    refine lv_iinc (v := 23) (lv' := [(7, .int 23), (6, .int 1), (5, .int 0), (3, .long 1), (0, .ref a0), (1, .int x0), (2, .ref a1)]) hx hb dX0_setAt_59 hl (k := 0) rfl (by decide +kernel) (by decide) rfl (fun ls hl => ?_)
    refine lv_goto (tgt := 19) hx hb dX0_setAt_62 (by decide) ?_
    refine lv_iload hx hb dX0_setAt_19 (lv_at hl 0 rfl) ?_
    refine lv_bipush (v := 64) hx hb dX0_setAt_21 (by decide) ?_
    refine lv_icmp_ge (tgt := 65) hx hb dX0_setAt_23 (by decide) (fun c_ => absurd c_ (by decide +kernel)) (fun _ => ?_)
    refine lv_lload_n hx hb dX0_setAt_26 rfl (lv_at hl 3 rfl) ?_
    refine lv_iload hx hb dX0_setAt_27 (lv_at hl 0 rfl) ?_
    refine lv_lshr (v := 0) hx hb dX0_setAt_29 (by decide +kernel) ?_
    refine lv_lconst (v := 1) hx hb dX0_setAt_30 (by decide) ?_
    refine lv_land hx hb dX0_setAt_31 ?_
    refine k_l 0 (by decide +kernel) ?_
    refine lv_lconst (v := 0) hx hb dX0_setAt_32 (by decide) ?_
    refine W.lcmp hx hb dX0_setAt_33 ?_
    refine k_i 0 (by decide +kernel) ?_
    refine lv_if_eq (tgt := 59) hx hb dX0_setAt_34 (by decide) (fun _ => ?_) (fun c_ => absurd (by decide +kernel) c_)
    refine lv_iinc (v := 24) (lv' := [(7, .int 24), (6, .int 1), (5, .int 0), (3, .long 1), (0, .ref a0), (1, .int x0), (2, .ref a1)]) hx hb dX0_setAt_59 hl (k := 0) rfl (by decide +kernel) (by decide) rfl (fun ls hl => ?_)
    refine lv_goto (tgt := 19) hx hb dX0_setAt_62 (by decide) ?_
    refine lv_iload hx hb dX0_setAt_19 (lv_at hl 0 rfl) ?_
    refine lv_bipush (v := 64) hx hb dX0_setAt_21 (by decide) ?_
    refine lv_icmp_ge (tgt := 65) hx hb dX0_setAt_23 (by decide) (fun c_ => absurd c_ (by decide +kernel)) (fun _ => ?_)
    refine lv_lload_n hx hb dX0_setAt_26 rfl (lv_at hl 3 rfl) ?_
    refine lv_iload hx hb dX0_setAt_27 (lv_at hl 0 rfl) ?_
    refine lv_lshr (v := 0) hx hb dX0_setAt_29 (by decide +kernel) ?_
    refine lv_lconst (v := 1) hx hb dX0_setAt_30 (by decide) ?_
    refine lv_land hx hb dX0_setAt_31 ?_
    refine k_l 0 (by decide +kernel) ?_
    refine lv_lconst (v := 0) hx hb dX0_setAt_32 (by decide) ?_
    refine W.lcmp hx hb dX0_setAt_33 ?_
    refine k_i 0 (by decide +kernel) ?_
    refine lv_if_eq (tgt := 59) hx hb dX0_setAt_34 (by decide) (fun _ => ?_) (fun c_ => absurd (by decide +kernel) c_)
    refine lv_iinc (v := 25) (lv' := [(7, .int 25), (6, .int 1), (5, .int 0), (3, .long 1), (0, .ref a0), (1, .int x0), (2, .ref a1)]) hx hb dX0_setAt_59 hl (k := 0) rfl (by decide +kernel) (by decide) rfl (fun ls hl => ?_)
    refine lv_goto (tgt := 19) hx hb dX0_setAt_62 (by decide) ?_
    refine lv_iload hx hb dX0_setAt_19 (lv_at hl 0 rfl) ?_
    refine lv_bipush (v := 64) hx hb dX0_setAt_21 (by decide) ?_
    refine lv_icmp_ge (tgt := 65) hx hb dX0_setAt_23 (by decide) (fun c_ => absurd c_ (by decide +kernel)) (fun _ => ?_)
    refine lv_lload_n hx hb dX0_setAt_26 rfl (lv_at hl 3 rfl) ?_
    refine lv_iload hx hb dX0_setAt_27 (lv_at hl 0 rfl) ?_
    refine lv_lshr (v := 0) hx hb dX0_setAt_29 (by decide +kernel) ?_
    refine lv_lconst (v := 1) hx hb dX0_setAt_30 (by decide) ?_
    refine lv_land hx hb dX0_setAt_31 ?_
    refine k_l 0 (by decide +kernel) ?_
    refine lv_lconst (v := 0) hx hb dX0_setAt_32 (by decide) ?_
    refine W.lcmp hx hb dX0_setAt_33 ?_
    refine k_i 0 (by decide +kernel) ?_
    refine lv_if_eq (tgt := 59) hx hb dX0_setAt_34 (by decide) (fun _ => ?_) (fun c_ => absurd (by decide +kernel) c_)
    refine lv_iinc (v := 26) (lv' := [(7, .int 26), (6, .int 1), (5, .int 0), (3, .long 1), (0, .ref a0), (1, .int x0), (2, .ref a1)]) hx hb dX0_setAt_59 hl (k := 0) rfl (by decide +kernel) (by decide) rfl (fun ls hl => ?_)
    refine lv_goto (tgt := 19) hx hb dX0_setAt_62 (by decide) ?_
    refine lv_iload hx hb dX0_setAt_19 (lv_at hl 0 rfl) ?_
    refine lv_bipush (v := 64) hx hb dX0_setAt_21 (by decide) ?_
    refine lv_icmp_ge (tgt := 65) hx hb dX0_setAt_23 (by decide) (fun c_ => absurd c_ (by decide +kernel)) (fun _ => ?_)
    refine lv_lload_n hx hb dX0_setAt_26 rfl (lv_at hl 3 rfl) ?_
    refine lv_iload hx hb dX0_setAt_27 (lv_at hl 0 rfl) ?_
    refine lv_lshr (v := 0) hx hb dX0_setAt_29 (by decide +kernel) ?_
    refine lv_lconst (v := 1) hx hb dX0_setAt_30 (by decide) ?_
    refine lv_land hx hb dX0_setAt_31 ?_
    refine k_l 0 (by decide +kernel) ?_
    refine lv_lconst (v := 0) hx hb dX0_setAt_32 (by decide) ?_
    refine W.lcmp hx hb dX0_setAt_33 ?_
    refine k_i 0 (by decide +kernel) ?_
    refine lv_if_eq (tgt := 59) hx hb dX0_setAt_34 (by decide) (fun _ => ?_) (fun c_ => absurd (by decide +kernel) c_)
    refine lv_iinc (v := 27) (lv' := [(7, .int 27), (6, .int 1), (5, .int 0), (3, .long 1), (0, .ref a0), (1, .int x0), (2, .ref a1)]) hx hb dX0_setAt_59 hl (k := 0) rfl (by decide +kernel) (by decide) rfl (fun ls hl => ?_)
    refine lv_goto (tgt := 19) hx hb dX0_setAt_62 (by decide) ?_
    refine lv_iload hx hb dX0_setAt_19 (lv_at hl 0 rfl) ?_
    refine lv_bipush (v := 64) hx hb dX0_setAt_21 (by decide) ?_
    refine lv_icmp_ge (tgt := 65) hx hb dX0_setAt_23 (by decide) (fun c_ => absurd c_ (by decide +kernel)) (fun _ => ?_)
    refine lv_lload_n hx hb dX0_setAt_26 rfl (lv_at hl 3 rfl) ?_
    refine lv_iload hx hb dX0_setAt_27 (lv_at hl 0 rfl) ?_
    refine lv_lshr (v := 0) hx hb dX0_setAt_29 (by decide +kernel) ?_
    refine lv_lconst (v := 1) hx hb dX0_setAt_30 (by decide) ?_
    refine lv_land hx hb dX0_setAt_31 ?_
    refine k_l 0 (by decide +kernel) ?_
    refine lv_lconst (v := 0) hx hb dX0_setAt_32 (by decide) ?_
    refine W.lcmp hx hb dX0_setAt_33 ?_
    refine k_i 0 (by decide +kernel) ?_
    refine lv_if_eq (tgt := 59) hx hb dX0_setAt_34 (by decide) (fun _ => ?_) (fun c_ => absurd (by decide +kernel) c_)
    refine lv_iinc (v := 28) (lv' := [(7, .int 28), (6, .int 1), (5, .int 0), (3, .long 1), (0, .ref a0), (1, .int x0), (2, .ref a1)]) hx hb dX0_setAt_59 hl (k := 0) rfl (by decide +kernel) (by decide) rfl (fun ls hl => ?_)
    refine lv_goto (tgt := 19) hx hb dX0_setAt_62 (by decide) ?_
    refine lv_iload hx hb dX0_setAt_19 (lv_at hl 0 rfl) ?_
    refine lv_bipush (v := 64) hx hb dX0_setAt_21 (by decide) ?_
    refine lv_icmp_ge (tgt := 65) hx hb dX0_setAt_23 (by decide) (fun c_ => absurd c_ (by decide +kernel)) (fun _ => ?_)
    refine lv_lload_n hx hb dX0_setAt_26 rfl (lv_at hl 3 rfl) ?_
    refine lv_iload hx hb dX0_setAt_27 (lv_at hl 0 rfl) ?_
    refine lv_lshr (v := 0) hx hb dX0_setAt_29 (by decide +kernel) ?_
    refine lv_lconst (v := 1) hx hb dX0_setAt_30 (by decide) ?_
    refine lv_land hx hb dX0_setAt_31 ?_
    refine k_l 0 (by decide +kernel) ?_
    refine lv_lconst (v := 0) hx hb dX0_setAt_32 (by decide) ?_
    refine W.lcmp hx hb dX0_setAt_33 ?_
    refine k_i 0 (by decide +kernel) ?_
    refine lv_if_eq (tgt := 59) hx hb dX0_setAt_34 (by decide) (fun _ => ?_) (fun c_ => absurd (by decide +kernel) c_)
    refine lv_iinc (v := 29) (lv' := [(7, .int 29), (6, .int 1), (5, .int 0), (3, .long 1), (0, .ref a0), (1, .int x0), (2, .ref a1)]) hx hb dX0_setAt_59 hl (k := 0) rfl (by decide +kernel) (by decide) rfl (fun ls hl => ?_)
    refine lv_goto (tgt := 19) hx hb dX0_setAt_62 (by decide) ?_
    refine lv_iload hx hb dX0_setAt_19 (lv_at hl 0 rfl) ?_
    refine lv_bipush (v := 64) hx hb dX0_setAt_21 (by decide) ?_
    refine lv_icmp_ge (tgt := 65) hx hb dX0_setAt_23 (by decide) (fun c_ => absurd c_ (by decide +kernel)) (fun _ => ?_)
    refine lv_lload_n hx hb dX0_setAt_26 rfl (lv_at hl 3 rfl) ?_
    refine lv_iload hx hb dX0_setAt_27 (lv_at hl 0 rfl) ?_
    refine lv_lshr (v := 0) hx hb dX0_setAt_29 (by decide +kernel) ?_
    refine lv_lconst (v := 1) hx hb dX0_setAt_30 (by decide) ?_
    refine lv_land hx hb dX0_setAt_31 ?_
    refine k_l 0 (by decide +kernel) ?_
    refine lv_lconst (v := 0) hx hb dX0_setAt_32 (by decide) ?_
    refine W.lcmp hx hb dX0_setAt_33 ?_
    refine k_i 0 (by decide +kernel) ?_
    refine lv_if_eq (tgt := 59) hx hb dX0_setAt_34 (by decide) (fun _ => ?_) (fun c_ => absurd (by decide +kernel) c_)
    refine lv_iinc (v := 30) (lv' := [(7, .int 30), (6, .int 1), (5, .int 0), (3, .long 1), (0, .ref a0), (1, .int x0), (2, .ref a1)]) hx hb dX0_setAt_59 hl (k := 0) rfl (by decide +kernel) (by decide) rfl (fun ls hl => ?_)
    refine lv_goto (tgt := 19) hx hb dX0_setAt_62 (by decide) ?_
    refine lv_iload hx hb dX0_setAt_19 (lv_at hl 0 rfl) ?_
    refine lv_bipush (v := 64) hx hb dX0_setAt_21 (by decide) ?_
    refine lv_icmp_ge (tgt := 65) hx hb dX0_setAt_23 (by decide) (fun c_ => absurd c_ (by decide +kernel)) (fun _ => ?_)
    refine lv_lload_n hx hb dX0_setAt_26 rfl (lv_at hl 3 rfl) ?_
    refine lv_iload hx hb dX0_setAt_27 (lv_at hl 0 rfl) ?_
    refine lv_lshr (v := 0) hx hb dX0_setAt_29 (by decide +kernel) ?_
    refine lv_lconst (v := 1) hx hb dX0_setAt_30 (by decide) ?_
    refine lv_land hx hb dX0_setAt_31 ?_
    refine k_l 0 (by decide +kernel) ?_
    refine lv_lconst (v := 0) hx hb dX0_setAt_32 (by decide) ?_
    refine W.lcmp hx hb dX0_setAt_33 ?_
    refine k_i 0 (by decide +kernel) ?_
    refine lv_if_eq (tgt := 59) hx hb dX0_setAt_34 (by decide) (fun _ => ?_) (fun c_ => absurd (by decide +kernel) c_)
    refine lv_iinc (v := 31) (lv' := [(7, .int 31), (6, .int 1), (5, .int 0), (3, .long 1), (0, .ref a0), (1, .int x0), (2, .ref a1)]) hx hb dX0_setAt_59 hl (k := 0) rfl (by decide +kernel) (by decide) rfl (fun ls hl => ?_)
    refine lv_goto (tgt := 19) hx hb dX0_setAt_62 (by decide) ?_
    refine lv_iload hx hb dX0_setAt_19 (lv_at hl 0 rfl) ?_
    refine lv_bipush (v := 64) hx hb dX0_setAt_21 (by decide) ?_
    refine lv_icmp_ge (tgt := 65) hx hb dX0_setAt_23 (by decide) (fun c_ => absurd c_ (by decide +kernel)) (fun _ => ?_)
    refine lv_lload_n hx hb dX0_setAt_26 rfl (lv_at hl 3 rfl) ?_
    refine lv_iload hx hb dX0_setAt_27 (lv_at hl 0 rfl) ?_
    refine lv_lshr (v := 0) hx hb dX0_setAt_29 (by decide +kernel) ?_
    refine lv_lconst (v := 1) hx hb dX0_setAt_30 (by decide) ?_
    refine lv_land hx hb dX0_setAt_31 ?_
    refine k_l 0 (by decide +kernel) ?_
    refine lv_lconst (v := 0) hx hb dX0_setAt_32 (by decide) ?_
    refine W.lcmp hx hb dX0_setAt_33 ?_
    refine k_i 0 (by decide +kernel) ?_
    refine lv_if_eq (tgt := 59) hx hb dX0_setAt_34 (by decide) (fun _ => ?_) (fun c_ => absurd (by decide +kernel) c_)
    refine lv_iinc (v := 32) (lv' := [(7, .int 32), (6, .int 1), (5, .int 0), (3, .long 1), (0, .ref a0), (1, .int x0), (2, .ref a1)]) hx hb dX0_setAt_59 hl (k := 0) rfl (by decide +kernel) (by decide) rfl (fun ls hl => ?_)
    refine lv_goto (tgt := 19) hx hb dX0_setAt_62 (by decide) ?_
    refine lv_iload hx hb dX0_setAt_19 (lv_at hl 0 rfl) ?_
    refine lv_bipush (v := 64) hx hb dX0_setAt_21 (by decide) ?_
    refine lv_icmp_ge (tgt := 65) hx hb dX0_setAt_23 (by decide) (fun c_ => absurd c_ (by decide +kernel)) (fun _ => ?_)
    refine lv_lload_n hx hb dX0_setAt_26 rfl (lv_at hl 3 rfl) ?_
    refine lv_iload hx hb dX0_setAt_27 (lv_at hl 0 rfl) ?_
    refine lv_lshr (v := 0) hx hb dX0_setAt_29 (by decide +kernel) ?_
    refine lv_lconst (v := 1) hx hb dX0_setAt_30 (by decide) ?_
    refine lv_land hx hb dX0_setAt_31 ?_
    refine k_l 0 (by decide +kernel) ?_
    refine lv_lconst (v := 0) hx hb dX0_setAt_32 (by decide) ?_
    refine W.lcmp hx hb dX0_setAt_33 ?_
    refine k_i 0 (by decide +kernel) ?_
    refine lv_if_eq (tgt := 59) hx hb dX0_setAt_34 (by decide) (fun _ => ?_) (fun c_ => absurd (by decide +kernel) c_)
    refine lv_iinc (v := 33) (lv' := [(7, .int 33), (6, .int 1), (5, .int 0), (3, .long 1), (0, .ref a0), (1, .int x0), (2, .ref a1)]) hx hb dX0_setAt_59 hl (k := 0) rfl (by decide +kernel) (by decide) rfl (fun ls hl => ?_)
    refine lv_goto (tgt := 19) hx hb dX0_setAt_62 (by decide) ?_
    refine lv_iload hx hb dX0_setAt_19 (lv_at hl 0 rfl) ?_
    refine lv_bipush (v := 64) hx hb dX0_setAt_21 (by decide) ?_
    refine lv_icmp_ge (tgt := 65) hx hb dX0_setAt_23 (by decide) (fun c_ => absurd c_ (by decide +kernel)) (fun _ => ?_)
    refine lv_lload_n hx hb dX0_setAt_26 rfl (lv_at hl 3 rfl) ?_
    refine lv_iload hx hb dX0_setAt_27 (lv_at hl 0 rfl) ?_
    refine lv_lshr (v := 0) hx hb dX0_setAt_29 (by decide +kernel) ?_
    refine lv_lconst (v := 1) hx hb dX0_setAt_30 (by decide) ?_
    refine lv_land hx hb dX0_setAt_31 ?_
    refine k_l 0 (by decide +kernel) ?_
    refine lv_lconst (v := 0) hx hb dX0_setAt_32 (by decide) ?_
    refine W.lcmp hx hb dX0_setAt_33 ?_
    refine k_i 0 (by decide +kernel) ?_
    refine lv_if_eq (tgt := 59) hx hb dX0_setAt_34 (by decide) (fun _ => ?_) (fun c_ => absurd (by decide +kernel) c_)
    refine lv_iinc (v := 34) (lv' := [(7, .int 34), (6, .int 1), (5, .int 0), (3, .long 1), (0, .ref a0), (1, .int x0), (2, .ref a1)]) hx hb dX0_setAt_59 hl (k := 0) rfl (by decide +kernel) (by decide) rfl (fun ls hl => ?_)
    refine lv_goto (tgt := 19) hx hb dX0_setAt_62 (by decide) ?_
    refine lv_iload hx hb dX0_setAt_19 (lv_at hl 0 rfl) ?_
    refine lv_bipush (v := 64) hx hb dX0_setAt_21 (by decide) ?_
    refine lv_icmp_ge (tgt := 65) hx hb dX0_setAt_23 (by decide) (fun c_ => absurd c_ (by decide +kernel)) (fun _ => ?_)
    refine lv_lload_n hx hb dX0_setAt_26 rfl (lv_at hl 3 rfl) ?_
    refine lv_iload hx hb dX0_setAt_27 (lv_at hl 0 rfl) ?_
    refine lv_lshr (v := 0) hx hb dX0_setAt_29 (by decide +kernel) ?_
    refine lv_lconst (v := 1) hx hb dX0_setAt_30 (by decide) ?_
    refine lv_land hx hb dX0_setAt_31 ?_
    refine k_l 0 (by decide +kernel) ?_
    refine lv_lconst (v := 0) hx hb dX0_setAt_32 (by decide) ?_
    refine W.lcmp hx hb dX0_setAt_33 ?_
    refine k_i 0 (by decide +kernel) ?_
    refine lv_if_eq (tgt := 59) hx hb dX0_setAt_34 (by decide) (fun _ => ?_) (fun c_ => absurd (by decide +kernel) c_)
    refine lv_iinc (v := 35) (lv' := [(7, .int 35), (6, .int 1), (5, .int 0), (3, .long 1), (0, .ref a0), (1, .int x0), (2, .ref a1)]) hx hb dX0_setAt_59 hl (k := 0) rfl (by decide +kernel) (by decide) rfl (fun ls hl => ?_)
    refine lv_goto (tgt := 19) hx hb dX0_setAt_62 (by decide) ?_
    refine lv_iload hx hb dX0_setAt_19 (lv_at hl 0 rfl) ?_
    refine lv_bipush (v := 64) hx hb dX0_setAt_21 (by decide) ?_
    refine lv_icmp_ge (tgt := 65) hx hb dX0_setAt_23 (by decide) (fun c_ => absurd c_ (by decide +kernel)) (fun _ => ?_)
    refine lv_lload_n hx hb dX0_setAt_26 rfl (lv_at hl 3 rfl) ?_
    refine lv_iload hx hb dX0_setAt_27 (lv_at hl 0 rfl) ?_
    refine lv_lshr (v := 0) hx hb dX0_setAt_29 (by decide +kernel) ?_
    refine lv_lconst (v := 1) hx hb dX0_setAt_30 (by decide) ?_
    refine lv_land hx hb dX0_setAt_31 ?_
    refine k_l 0 (by decide +kernel) ?_
    refine lv_lconst (v := 0) hx hb dX0_setAt_32 (by decide) ?_
    refine W.lcmp hx hb dX0_setAt_33 ?_
    refine k_i 0 (by decide +kernel) ?_
    refine lv_if_eq (tgt := 59) hx hb dX0_setAt_34 (by decide) (fun _ => ?_) (fun c_ => absurd (by decide +kernel) c_)
    refine lv_iinc (v := 36) (lv' := [(7, .int 36), (6, .int 1), (5, .int 0), (3, .long 1), (0, .ref a0), (1, .int x0), (2, .ref a1)]) hx hb dX0_setAt_59 hl (k := 0) rfl (by decide +kernel) (by decide) rfl (fun ls hl => ?_)
    refine lv_goto (tgt := 19) hx hb dX0_setAt_62 (by decide) ?_
    refine lv_iload hx hb dX0_setAt_19 (lv_at hl 0 rfl) ?_
    refine lv_bipush (v := 64) hx hb dX0_setAt_21 (by decide) ?_
    refine lv_icmp_ge (tgt := 65) hx hb dX0_setAt_23 (by decide) (fun c_ => absurd c_ (by decide +kernel)) (fun _ => ?_)
    refine lv_lload_n hx hb dX0_setAt_26 rfl (lv_at hl 3 rfl) ?_
    refine lv_iload hx hb dX0_setAt_27 (lv_at hl 0 rfl) ?_
    refine lv_lshr (v := 0) hx hb dX0_setAt_29 (by decide +kernel) ?_
    refine lv_lconst (v := 1) hx hb dX0_setAt_30 (by decide) ?_
    refine lv_land hx hb dX0_setAt_31 ?_
    refine k_l 0 (by decide +kernel) ?_
    refine lv_lconst (v := 0) hx hb dX0_setAt_32 (by decide) ?_
    refine W.lcmp hx hb dX0_setAt_33 ?_
    refine k_i 0 (by decide +kernel) ?_
    refine lv_if_eq (tgt := 59) hx hb dX0_setAt_34 (by decide) (fun _ => ?_) (fun c_ => absurd (by decide +kernel) c_)
    refine lv_iinc (v := 37) (lv' := [(7, .int 37), (6, .int 1), (5, .int 0), (3, .long 1), (0, .ref a0), (1, .int x0), (2, .ref a1)]) hx hb dX0_setAt_59 hl (k := 0) rfl (by decide +kernel) (by decide) rfl (fun ls hl => ?_)
    refine lv_goto (tgt := 19) hx hb dX0_setAt_62 (by decide) ?_
    refine lv_iload hx hb dX0_setAt_19 (lv_at hl 0 rfl) ?_
    refine lv_bipush (v := 64) hx hb dX0_setAt_21 (by decide) ?_
    refine lv_icmp_ge (tgt := 65) hx hb dX0_setAt_23 (by decide) (fun c_ => absurd c_ (by decide +kernel)) (fun _ => ?_)
    refine lv_lload_n hx hb dX0_setAt_26 rfl (lv_at hl 3 rfl) ?_
    refine lv_iload hx hb dX0_setAt_27 (lv_at hl 0 rfl) ?_
    refine lv_lshr (v := 0) hx hb dX0_setAt_29 (by decide +kernel) ?_
    refine lv_lconst (v := 1) hx hb dX0_setAt_30 (by decide) ?_
    refine lv_land hx hb dX0_setAt_31 ?_
    refine k_l 0 (by decide +kernel) ?_
    refine lv_lconst (v := 0) hx hb dX0_setAt_32 (by decide) ?_
    refine W.lcmp hx hb dX0_setAt_33 ?_
    refine k_i 0 (by decide +kernel) ?_
    refine lv_if_eq (tgt := 59) hx hb dX0_setAt_34 (by decide) (fun _ => ?_) (fun c_ => absurd (by decide +kernel) c_)
    refine lv_iinc (v := 38) (lv' := [(7, .int 38), (6, .int 1), (5, .int 0), (3, .long 1), (0, .ref a0), (1, .int x0), (2, .ref a1)]) hx hb dX0_setAt_59 hl (k := 0) rfl (by decide +kernel) (by decide) rfl (fun ls hl => ?_)
    refine lv_goto (tgt := 19) hx hb dX0_setAt_62 (by decide) ?_
    refine lv_iload hx hb dX0_setAt_19 (lv_at hl 0 rfl) ?_
    refine lv_bipush (v := 64) hx hb dX0_setAt_21 (by decide) ?_
    refine lv_icmp_ge (tgt := 65) hx hb dX0_setAt_23 (by decide) (fun c_ => absurd c_ (by decide +kernel)) (fun _ => ?_)
    refine lv_lload_n hx hb dX0_setAt_26 rfl (lv_at hl 3 rfl) ?_
    refine lv_iload hx hb dX0_setAt_27 (lv_at hl 0 rfl) ?_
    refine lv_lshr (v := 0) hx hb dX0_setAt_29 (by decide +kernel) ?_
    refine lv_lconst (v := 1) hx hb dX0_setAt_30 (by decide) ?_
    refine lv_land hx hb dX0_setAt_31 ?_
    refine k_l 0 (by decide +kernel) ?_
    refine lv_lconst (v := 0) hx hb dX0_setAt_32 (by decide) ?_
    refine W.lcmp hx hb dX0_setAt_33 ?_
    refine k_i 0 (by decide +kernel) ?_
    refine lv_if_eq (tgt := 59) hx hb dX0_setAt_34 (by decide) (fun _ => ?_) (fun c_ => absurd (by decide +kernel) c_)
    refine lv_iinc (v := 39) (lv' := [(7, .int 39), (6, .int 1), (5, .int 0), (3, .long 1), (0, .ref a0), (1, .int x0), (2, .ref a1)]) hx hb dX0_setAt_59 hl (k := 0) rfl (by decide +kernel) (by decide) rfl (fun ls hl => ?_)
    refine lv_goto (tgt := 19) hx hb dX0_setAt_62 (by decide) ?_
    refine lv_iload hx hb dX0_setAt_19 (lv_at hl 0 rfl) ?_
    refine lv_bipush (v := 64) hx hb dX0_setAt_21 (by decide) ?_
    refine lv_icmp_ge (tgt := 65) hx hb dX0_setAt_23 (by decide) (fun c_ => absurd c_ (by decide +kernel)) (fun _ => ?_)
    refine lv_lload_n hx hb dX0_setAt_26 rfl (lv_at hl 3 rfl) ?_
    refine lv_iload hx hb dX0_setAt_27 (lv_at hl 0 rfl) ?_
    refine lv_lshr (v := 0) hx hb dX0_setAt_29 (by decide +kernel) ?_
    refine lv_lconst (v := 1) hx hb dX0_setAt_30 (by decide) ?_
    refine lv_land hx hb dX0_setAt_31 ?_
    refine k_l 0 (by decide +kernel) ?_
    refine lv_lconst (v := 0) hx hb dX0_setAt_32 (by decide) ?_
    refine W.lcmp hx hb dX0_setAt_33 ?_
    refine k_i 0 (by decide +kernel) ?_
    refine lv_if_eq (tgt := 59) hx hb dX0_setAt_34 (by decide) (fun _ => ?_) (fun c_ => absurd (by decide +kernel) c_)
    refine lv_iinc (v := 40) (lv' := [(7, .int 40), (6, .int 1), (5, .int 0), (3, .long 1), (0, .ref a0), (1, .int x0), (2, .ref a1)]) hx hb dX0_setAt_59 hl (k := 0) rfl (by decide +kernel) (by decide) rfl (fun ls hl => ?_)
    refine lv_goto (tgt := 19) hx hb dX0_setAt_62 (by decide) ?_
    refine lv_iload hx hb dX0_setAt_19 (lv_at hl 0 rfl) ?_
    refine lv_bipush (v := 64) hx hb dX0_setAt_21 (by decide) ?_
    refine lv_icmp_ge (tgt := 65) hx hb dX0_setAt_23 (by decide) (fun c_ => absurd c_ (by decide +kernel)) (fun _ => ?_)
    refine lv_lload_n hx hb dX0_setAt_26 rfl (lv_at hl 3 rfl) ?_
    refine lv_iload hx hb dX0_setAt_27 (lv_at hl 0 rfl) ?_
    refine lv_lshr (v := 0) hx hb dX0_setAt_29 (by decide +kernel) ?_
    refine lv_lconst (v := 1) hx hb dX0_setAt_30 (by decide) ?_
    refine lv_land hx hb dX0_setAt_31 ?_
    refine k_l 0 (by decide +kernel) ?_
    refine lv_lconst (v := 0) hx hb dX0_setAt_32 (by decide) ?_
    refine W.lcmp hx hb dX0_setAt_33 ?_
    refine k_i 0 (by decide +kernel) ?_
    refine lv_if_eq (tgt := 59) hx hb dX0_setAt_34 (by decide) (fun _ => ?_) (fun c_ => absurd (by decide +kernel) c_)
    refine lv_iinc (v := 41) (lv' := [(7, .int 41), (6, .int 1), (5, .int 0), (3, .long 1), (0, .ref a0), (1, .int x0), (2, .ref a1)]) hx hb dX0_setAt_59 hl (k := 0) rfl (by decide +kernel) (by decide) rfl (fun ls hl => ?_)
    refine lv_goto (tgt := 19) hx hb dX0_setAt_62 (by decide) ?_
    refine lv_iload hx hb dX0_setAt_19 (lv_at hl 0 rfl) ?_
    refine lv_bipush (v := 64) hx hb dX0_setAt_21 (by decide) ?_
    refine lv_icmp_ge (tgt := 65) hx hb dX0_setAt_23 (by decide) (fun c_ => absurd c_ (by decide +kernel)) (fun _ => ?_)
    refine lv_lload_n hx hb dX0_setAt_26 rfl (lv_at hl 3 rfl) ?_
    refine lv_iload hx hb dX0_setAt_27 (lv_at hl 0 rfl) ?_
    refine lv_lshr (v := 0) hx hb dX0_setAt_29 (by decide +kernel) ?_
    refine lv_lconst (v := 1) hx hb dX0_setAt_30 (by decide) ?_
    refine lv_land hx hb dX0_setAt_31 ?_
    refine k_l 0 (by decide +kernel) ?_
    refine lv_lconst (v := 0) hx hb dX0_setAt_32 (by decide) ?_
    refine W.lcmp hx hb dX0_setAt_33 ?_
    refine k_i 0 (by decide +kernel) ?_
    refine lv_if_eq (tgt := 59) hx hb dX0_setAt_34 (by decide) (fun _ => ?_) (fun c_ => absurd (by decide +kernel) c_)
    refine lv_iinc (v := 42) (lv' := [(7, .int 42), (6, .int 1), (5, .int 0), (3, .long 1), (0, .ref a0), (1, .int x0), (2, .ref a1)]) hx hb dX0_setAt_59 hl (k := 0) rfl (by decide +kernel) (by decide) rfl (fun ls hl => ?_)
    refine lv_goto (tgt := 19) hx hb dX0_setAt_62 (by decide) ?_
    refine lv_iload hx hb dX0_setAt_19 (lv_at hl 0 rfl) ?_
    refine lv_bipush (v := 64) hx hb dX0_setAt_21 (by decide) ?_
    refine lv_icmp_ge (tgt := 65) hx hb dX0_setAt_23 (by decide) (fun c_ => absurd c_ (by decide +kernel)) (fun _ => ?_)
    refine lv_lload_n hx hb dX0_setAt_26 rfl (lv_at hl 3 rfl) ?_
    refine lv_iload hx hb dX0_setAt_27 (lv_at hl 0 rfl) ?_
    refine lv_lshr (v := 0) hx hb dX0_setAt_29 (by decide +kernel) ?_
    refine lv_lconst (v := 1) hx hb dX0_setAt_30 (by decide) ?_
    refine lv_land hx hb dX0_setAt_31 ?_
    refine k_l 0 (by decide +kernel) ?_
    refine lv_lconst (v := 0) hx hb dX0_setAt_32 (by decide) ?_
    refine W.lcmp hx hb dX0_setAt_33 ?_
    refine k_i 0 (by decide +kernel) ?_
    refine lv_if_eq (tgt := 59) hx hb dX0_setAt_34 (by decide) (fun _ => ?_) (fun c_ => absurd (by decide +kernel) c_)
    refine lv_iinc (v := 43) (lv' := [(7, .int 43), (6, .int 1), (5, .int 0), (3, .long 1), (0, .ref a0), (1, .int x0), (2, .ref a1)]) hx hb dX0_setAt_59 hl (k := 0) rfl (by decide +kernel) (by decide) rfl (fun ls hl => ?_)
    refine lv_goto (tgt := 19) hx hb dX0_setAt_62 (by decide) ?_
    refine lv_iload hx hb dX0_setAt_19 (lv_at hl 0 rfl) ?_
    refine lv_bipush (v := 64) hx hb dX0_setAt_21 (by decide) ?_
    refine lv_icmp_ge (tgt := 65) hx hb dX0_setAt_23 (by decide) (fun c_ => absurd c_ (by decide +kernel)) (fun _ => ?_)
    refine lv_lload_n hx hb dX0_setAt_26 rfl (lv_at hl 3 rfl) ?_
    refine lv_iload hx hb dX0_setAt_27 (lv_at hl 0 rfl) ?_
    refine lv_lshr (v := 0) hx hb dX0_setAt_29 (by decide +kernel) ?_
    refine lv_lconst (v := 1) hx hb dX0_setAt_30 (by decide) ?_
    refine lv_land hx hb dX0_setAt_31 ?_
    refine k_l 0 (by decide +kernel) ?_
    refine lv_lconst (v := 0) hx hb dX0_setAt_32 (by decide) ?_
    refine W.lcmp hx hb dX0_setAt_33 ?_
    refine k_i 0 (by decide +kernel) ?_
    refine lv_if_eq (tgt := 59) hx hb dX0_setAt_34 (by decide) (fun _ => ?_) (fun c_ => absurd (by decide +kernel) c_)
    refine lv_iinc (v := 44) (lv' := [(7, .int 44), (6, .int 1), (5, .int 0), (3, .long 1), (0, .ref a0), (1, .int x0), (2, .ref a1)]) hx hb dX0_setAt_59 hl (k := 0) rfl (by decide +kernel) (by decide) rfl (fun ls hl => ?_)
    refine lv_goto (tgt := 19) hx hb dX0_setAt_62 (by decide) ?_
    refine lv_iload hx hb dX0_setAt_19 (lv_at hl 0 rfl) ?_
    refine lv_bipush (v := 64) hx hb dX0_setAt_21 (by decide) ?_
    refine lv_icmp_ge (tgt := 65) hx hb dX0_setAt_23 (by decide) (fun c_ => absurd c_ (by decide +kernel)) (fun _ => ?_)
    refine lv_lload_n hx hb dX0_setAt_26 rfl (lv_at hl 3 rfl) ?_
    refine lv_iload hx hb dX0_setAt_27 (lv_at hl 0 rfl) ?_
    refine lv_lshr (v := 0) hx hb dX0_setAt_29 (by decide +kernel) ?_
    refine lv_lconst (v := 1) hx hb dX0_setAt_30 (by decide) ?_
    refine lv_land hx hb dX0_setAt_31 ?_
    refine k_l 0 (by decide +kernel) ?_
    refine lv_lconst (v := 0) hx hb dX0_setAt_32 (by decide) ?_
    refine W.lcmp hx hb dX0_setAt_33 ?_
    refine k_i 0 (by decide +kernel) ?_
    refine lv_if_eq (tgt := 59) hx hb dX0_setAt_34 (by decide) (fun _ => ?_) (fun c_ => absurd (by decide +kernel) c_)
    refine lv_iinc (v := 45) (lv' := [(7, .int 45), (6, .int 1), (5, .int 0), (3, .long 1), (0, .ref a0), (1, .int x0), (2, .ref a1)]) hx hb dX0_setAt_59 hl (k := 0) rfl (by decide +kernel) (by decide) rfl (fun ls hl => ?_)
    refine lv_goto (tgt := 19) hx hb dX0_setAt_62 (by decide) ?_
    refine lv_iload hx hb dX0_setAt_19 (lv_at hl 0 rfl) ?_
    refine lv_bipush (v := 64) hx hb dX0_setAt_21 (by decide) ?_
    refine lv_icmp_ge (tgt := 65) hx hb dX0_setAt_23 (by decide) (fun c_ => absurd c_ (by decide +kernel)) (fun _ => ?_)
    refine lv_lload_n hx hb dX0_setAt_26 rfl (lv_at hl 3 rfl) ?_
    refine lv_iload hx hb dX0_setAt_27 (lv_at hl 0 rfl) ?_
    refine lv_lshr (v := 0) hx hb dX0_setAt_29 (by decide +kernel) ?_
    refine lv_lconst (v := 1) hx hb dX0_setAt_30 (by decide) ?_
    refine lv_land hx hb dX0_setAt_31 ?_
    refine k_l 0 (by decide +kernel) ?_
    refine lv_lconst (v := 0) hx hb dX0_setAt_32 (by decide) ?_
    refine W.lcmp hx hb dX0_setAt_33 ?_
    refine k_i 0 (by decide +kernel) ?_
    refine lv_if_eq (tgt := 59) hx hb dX0_setAt_34 (by decide) (fun _ => ?_) (fun c_ => absurd (by decide +kernel) c_)
    refine lv_iinc (v := 46) (lv' := [(7, .int 46), (6, .int 1), (5, .int 0), (3, .long 1), (0, .ref a0), (1, .int x0), (2, .ref a1)]) hx hb dX0_setAt_59 hl (k := 0) rfl (by decide +kernel) (by decide) rfl (fun ls hl => ?_)
    refine lv_goto (tgt := 19) hx hb dX0_setAt_62 (by decide) ?_
    refine lv_iload hx hb dX0_setAt_19 (lv_at hl 0 rfl) ?_
    refine lv_bipush (v := 64) hx hb dX0_setAt_21 (by decide) ?_
    refine lv_icmp_ge (tgt := 65) hx hb dX0_setAt_23 (by decide) (fun c_ => absurd c_ (by decide +kernel)) (fun _ => ?_)
    refine lv_lload_n hx hb dX0_setAt_26 rfl (lv_at hl 3 rfl) ?_
    refine lv_iload hx hb dX0_setAt_27 (lv_at hl 0 rfl) ?_
    refine lv_lshr (v := 0) hx hb dX0_setAt_29 (by decide +kernel) ?_
    refine lv_lconst (v := 1) hx hb dX0_setAt_30 (by decide) ?_
    refine lv_land hx hb dX0_setAt_31 ?_
    refine k_l 0 (by decide +kernel) ?_
    refine lv_lconst (v := 0) hx hb dX0_setAt_32 (by decide) ?_
    refine W.lcmp hx hb dX0_setAt_33 ?_
    refine k_i 0 (by decide +kernel) ?_
    refine lv_if_eq (tgt := 59) hx hb dX0_setAt_34 (by decide) (fun _ => ?_) (fun c_ => absurd (by decide +kernel) c_)
    refine lv_iinc (v := 47) (lv' := [(7, .int 47), (6, .int 1), (5, .int 0), (3, .long 1), (0, .ref a0), (1, .int x0), (2, .ref a1)]) hx hb dX0_setAt_59 hl (k := 0) rfl (by decide +kernel) (by decide) rfl (fun ls hl => ?_)
    refine lv_goto (tgt := 19) hx hb dX0_setAt_62 (by decide) ?_
    refine lv_iload hx hb dX0_setAt_19 (lv_at hl 0 rfl) ?_
    refine lv_bipush (v := 64) hx hb dX0_setAt_21 (by decide) ?_
    refine lv_icmp_ge (tgt := 65) hx hb dX0_setAt_23 (by decide) (fun c_ => absurd c_ (by decide +kernel)) (fun _ => ?_)
    refine lv_lload_n hx hb dX0_setAt_26 rfl (lv_at hl 3 rfl) ?_
    refine lv_iload hx hb dX0_setAt_27 (lv_at hl 0 rfl) ?_
    refine lv_lshr (v := 0) hx hb dX0_setAt_29 (by decide +kernel) ?_
    refine lv_lconst (v := 1) hx hb dX0_setAt_30 (by decide) ?_
    refine lv_land hx hb dX0_setAt_31 ?_
    refine k_l 0 (by decide +kernel) ?_
    refine lv_lconst (v := 0) hx hb dX0_setAt_32 (by decide) ?_
    refine W.lcmp hx hb dX0_setAt_33 ?_
    refine k_i 0 (by decide +kernel) ?_
    refine lv_if_eq (tgt := 59) hx hb dX0_setAt_34 (by decide) (fun _ => ?_) (fun c_ => absurd (by decide +kernel) c_)
    refine lv_iinc (v := 48) (lv' := [(7, .int 48), (6, .int 1), (5, .int 0), (3, .long 1), (0, .ref a0), (1, .int x0), (2, .ref a1)]) hx hb dX0_setAt_59 hl (k := 0) rfl (by decide +kernel) (by decide) rfl (fun ls hl => ?_)
    refine lv_goto (tgt := 19) hx hb dX0_setAt_62 (by decide) ?_
    refine lv_iload hx hb dX0_setAt_19 (lv_at hl 0 rfl) ?_
    refine lv_bipush (v := 64) hx hb dX0_setAt_21 (by decide) ?_
    refine lv_icmp_ge (tgt := 65) hx hb dX0_setAt_23 (by decide) (fun c_ => absurd c_ (by decide +kernel)) (fun _ => ?_)
    refine lv_lload_n hx hb dX0_setAt_26 rfl (lv_at hl 3 rfl) ?_
    refine lv_iload hx hb dX0_setAt_27 (lv_at hl 0 rfl) ?_
    refine lv_lshr (v := 0) hx hb dX0_setAt_29 (by decide +kernel) ?_
    refine lv_lconst (v := 1) hx hb dX0_setAt_30 (by decide) ?_
    refine lv_land hx hb dX0_setAt_31 ?_
    refine k_l 0 (by decide +kernel) ?_
    refine lv_lconst (v := 0) hx hb dX0_setAt_32 (by decide) ?_
    refine W.lcmp hx hb dX0_setAt_33 ?_
    refine k_i 0 (by decide +kernel) ?_
    refine lv_if_eq (tgt := 59) hx hb dX0_setAt_34 (by decide) (fun _ => ?_) (fun c_ => absurd (by decide +kernel) c_)
    refine lv_iinc (v := 49) (lv' := [(7, .int 49), (6, .int 1), (5, .int 0), (3, .long 1), (0, .ref a0), (1, .int x0), (2, .ref a1)]) hx hb dX0_setAt_59 hl (k := 0) rfl (by decide +kernel) (by decide) rfl (fun ls hl => ?_)
    refine lv_goto (tgt := 19) hx hb dX0_setAt_62 (by decide) ?_
    refine lv_iload hx hb dX0_setAt_19 (lv_at hl 0 rfl) ?_
    refine lv_bipush (v := 64) hx hb dX0_setAt_21 (by decide) ?_
    refine lv_icmp_ge (tgt := 65) hx hb dX0_setAt_23 (by decide) (fun c_ => absurd c_ (by decide +kernel)) (fun _ => ?_)
    refine lv_lload_n hx hb dX0_setAt_26 rfl (lv_at hl 3 rfl) ?_
    refine lv_iload hx hb dX0_setAt_27 (lv_at hl 0 rfl) ?_
    refine lv_lshr (v := 0) hx hb dX0_setAt_29 (by decide +kernel) ?_
    refine lv_lconst (v := 1) hx hb dX0_setAt_30 (by decide) ?_
    refine lv_land hx hb dX0_setAt_31 ?_
    refine k_l 0 (by decide +kernel) ?_
    refine lv_lconst (v := 0) hx hb dX0_setAt_32 (by decide) ?_
    refine W.lcmp hx hb dX0_setAt_33 ?_
    refine k_i 0 (by decide +kernel) ?_
    refine lv_if_eq (tgt := 59) hx hb dX0_setAt_34 (by decide) (fun _ => ?_) (fun c_ => absurd (by decide +kernel) c_)
    refine lv_iinc (v := 50) (lv' := [(7, .int 50), (6, .int 1), (5, .int 0), (3, .long 1), (0, .ref a0), (1, .int x0), (2, .ref a1)]) hx hb dX0_setAt_59 hl (k := 0) rfl (by decide +kernel) (by decide) rfl (fun ls hl => ?_)
    refine lv_goto (tgt := 19) hx hb dX0_setAt_62 (by decide) ?_
    refine lv_iload hx hb dX0_setAt_19 (lv_at hl 0 rfl) ?_
    refine lv_bipush (v := 64) hx hb dX0_setAt_21 (by decide) ?_
    refine lv_icmp_ge (tgt := 65) hx hb dX0_setAt_23 (by decide) (fun c_ => absurd c_ (by decide +kernel)) (fun _ => ?_)
    refine lv_lload_n hx hb dX0_setAt_26 rfl (lv_at hl 3 rfl) ?_
    refine lv_iload hx hb dX0_setAt_27 (lv_at hl 0 rfl) ?_
    refine lv_lshr (v := 0) hx hb dX0_setAt_29 (by decide +kernel) ?_
    refine lv_lconst (v := 1) hx hb dX0_setAt_30 (by decide) ?_
    refine lv_land hx hb dX0_setAt_31 ?_
    refine k_l 0 (by decide +kernel) ?_
    refine lv_lconst (v := 0) hx hb dX0_setAt_32 (by decide) ?_
    refine W.lcmp hx hb dX0_setAt_33 ?_
    refine k_i 0 (by decide +kernel) ?_
    refine lv_if_eq (tgt := 59) hx hb dX0_setAt_34 (by decide) (fun _ => ?_) (fun c_ => absurd (by decide +kernel) c_)
    refine lv_iinc (v := 51) (lv' := [(7, .int 51), (6, .int 1), (5, .int 0), (3, .long 1), (0, .ref a0), (1, .int x0), (2, .ref a1)]) hx hb dX0_setAt_59 hl (k := 0) rfl (by decide +kernel) (by decide) rfl (fun ls hl => ?_)
    refine lv_goto (tgt := 19) hx hb dX0_setAt_62 (by decide) ?_
    refine lv_iload hx hb dX0_setAt_19 (lv_at hl 0 rfl) ?_
    refine lv_bipush (v := 64) hx hb dX0_setAt_21 (by decide) ?_
    refine lv_icmp_ge (tgt := 65) hx hb dX0_setAt_23 (by decide) (fun c_ => absurd c_ (by decide +kernel)) (fun _ => ?_)
    refine lv_lload_n hx hb dX0_setAt_26 rfl (lv_at hl 3 rfl) ?_
    refine lv_iload hx hb dX0_setAt_27 (lv_at hl 0 rfl) ?_
    refine lv_lshr (v := 0) hx hb dX0_setAt_29 (by decide +kernel) ?_
    refine lv_lconst (v := 1) hx hb dX0_setAt_30 (by decide) ?_
    refine lv_land hx hb dX0_setAt_31 ?_
    refine k_l 0 (by decide +kernel) ?_
    refine lv_lconst (v := 0) hx hb dX0_setAt_32 (by decide) ?_
    refine W.lcmp hx hb dX0_setAt_33 ?_
    refine k_i 0 (by decide +kernel) ?_
    refine lv_if_eq (tgt := 59) hx hb dX0_setAt_34 (by decide) (fun _ => ?_) (fun c_ => absurd (by decide +kernel) c_)
    refine lv_iinc (v := 52) (lv' := [(7, .int 52), (6, .int 1), (5, .int 0), (3, .long 1), (0, .ref a0), (1, .int x0), (2, .ref a1)]) hx hb dX0_setAt_59 hl (k := 0) rfl (by decide +kernel) (by decide) rfl (fun ls hl => ?_)
    refine lv_goto (tgt := 19) hx hb dX0_setAt_62 (by decide) ?_
    refine lv_iload hx hb dX0_setAt_19 (lv_at hl 0 rfl) ?_
    refine lv_bipush (v := 64) hx hb dX0_setAt_21 (by decide) ?_
    refine lv_icmp_ge (tgt := 65) hx hb dX0_setAt_23 (by decide) (fun c_ => absurd c_ (by decide +kernel)) (fun _ => ?_)
    refine lv_lload_n hx hb dX0_setAt_26 rfl (lv_at hl 3 rfl) ?_
    refine lv_iload hx hb dX0_setAt_27 (lv_at hl 0 rfl) ?_
    refine lv_lshr (v := 0) hx hb dX0_setAt_29 (by decide +kernel) ?_
    refine lv_lconst (v := 1) hx hb dX0_setAt_30 (by decide) ?_
    refine lv_land hx hb dX0_setAt_31 ?_
    refine k_l 0 (by decide +kernel) ?_
    refine lv_lconst (v := 0) hx hb dX0_setAt_32 (by decide) ?_
    refine W.lcmp hx hb dX0_setAt_33 ?_
    refine k_i 0 (by decide +kernel) ?_
    refine lv_if_eq (tgt := 59) hx hb dX0_setAt_34 (by decide) (fun _ => ?_) (fun c_ => absurd (by decide +kernel) c_)
    refine lv_iinc (v := 53) (lv' := [(7, .int 53), (6, .int 1), (5, .int 0), (3, .long 1), (0, .ref a0), (1, .int x0), (2, .ref a1)]) hx hb dX0_setAt_59 hl (k := 0) rfl (by decide +kernel) (by decide) rfl (fun ls hl => ?_)
    refine lv_goto (tgt := 19) hx hb dX0_setAt_62 (by decide) ?_
    refine lv_iload hx hb dX0_setAt_19 (lv_at hl 0 rfl) ?_
    refine lv_bipush (v := 64) hx hb dX0_setAt_21 (by decide) ?_
    refine lv_icmp_ge (tgt := 65) hx hb dX0_setAt_23 (by decide) (fun c_ => absurd c_ (by decide +kernel)) (fun _ => ?_)
    refine lv_lload_n hx hb dX0_setAt_26 rfl (lv_at hl 3 rfl) ?_
    refine lv_iload hx hb dX0_setAt_27 (lv_at hl 0 rfl) ?_
    refine lv_lshr (v := 0) hx hb dX0_setAt_29 (by decide +kernel) ?_
    refine lv_lconst (v := 1) hx hb dX0_setAt_30 (by decide) ?_
    refine lv_land hx hb dX0_setAt_31 ?_
    refine k_l 0 (by decide +kernel) ?_
    refine lv_lconst (v := 0) hx hb dX0_setAt_32 (by decide) ?_
    refine W.lcmp hx hb dX0_setAt_33 ?_
    refine k_i 0 (by decide +kernel) ?_
    refine lv_if_eq (tgt := 59) hx hb dX0_setAt_34 (by decide) (fun _ => ?_) (fun c_ => absurd (by decide +kernel) c_)
    refine lv_iinc (v := 54) (lv' := [(7, .int 54), (6, .int 1), (5, .int 0), (3, .long 1), (0, .ref a0), (1, .int x0), (2, .ref a1)]) hx hb dX0_setAt_59 hl (k := 0) rfl (by decide +kernel) (by decide) rfl (fun ls hl => ?_)
    refine lv_goto (tgt := 19) hx hb dX0_setAt_62 (by decide) ?_
    refine lv_iload hx hb dX0_setAt_19 (lv_at hl 0 rfl) ?_
    refine lv_bipush (v := 64) hx hb dX0_setAt_21 (by decide) ?_
    refine lv_icmp_ge (tgt := 65) hx hb dX0_setAt_23 (by decide) (fun c_ => absurd c_ (by decide +kernel)) (fun _ => ?_)
    refine lv_lload_n hx hb dX0_setAt_26 rfl (lv_at hl 3 rfl) ?_
    refine lv_iload hx hb dX0_setAt_27 (lv_at hl 0 rfl) ?_
    refine lv_lshr (v := 0) hx hb dX0_setAt_29 (by decide +kernel) ?_
    refine lv_lconst (v := 1) hx hb dX0_setAt_30 (by decide) ?_
    refine lv_land hx hb dX0_setAt_31 ?_
    refine k_l 0 (by decide +kernel) ?_
    refine lv_lconst (v := 0) hx hb dX0_setAt_32 (by decide) ?_
    refine W.lcmp hx hb dX0_setAt_33 ?_
    refine k_i 0 (by decide +kernel) ?_
    refine lv_if_eq (tgt := 59) hx hb dX0_setAt_34 (by decide) (fun _ => ?_) (fun c_ => absurd (by decide +kernel) c_)
    refine lv_iinc (v := 55) (lv' := [(7, .int 55), (6, .int 1), (5, .int 0), (3, .long 1), (0, .ref a0), (1, .int x0), (2, .ref a1)]) hx hb dX0_setAt_59 hl (k := 0) rfl (by decide +kernel) (by decide) rfl (fun ls hl => ?_)
    refine lv_goto (tgt := 19) hx hb dX0_setAt_62 (by decide) ?_
    refine lv_iload hx hb dX0_setAt_19 (lv_at hl 0 rfl) ?_
    refine lv_bipush (v := 64) hx hb dX0_setAt_21 (by decide) ?_
    refine lv_icmp_ge (tgt := 65) hx hb dX0_setAt_23 (by decide) (fun c_ => absurd c_ (by decide +kernel)) (fun _ => ?_)
    refine lv_lload_n hx hb dX0_setAt_26 rfl (lv_at hl 3 rfl) ?_
    refine lv_iload hx hb dX0_setAt_27 (lv_at hl 0 rfl) ?_
    refine lv_lshr (v := 0) hx hb dX0_setAt_29 (by decide +kernel) ?_
    refine lv_lconst (v := 1) hx hb dX0_setAt_30 (by decide) ?_
    refine lv_land hx hb dX0_setAt_31 ?_
    refine k_l 0 (by decide +kernel) ?_
    refine lv_lconst (v := 0) hx hb dX0_setAt_32 (by decide) ?_
    refine W.lcmp hx hb dX0_setAt_33 ?_
    refine k_i 0 (by decide +kernel) ?_
    refine lv_if_eq (tgt := 59) hx hb dX0_setAt_34 (by decide) (fun _ => ?_) (fun c_ => absurd (by decide +kernel) c_)
    refine lv_iinc (v := 56) (lv' := [(7, .int 56), (6, .int 1), (5, .int 0), (3, .long 1), (0, .ref a0), (1, .int x0), (2, .ref a1)]) hx hb dX0_setAt_59 hl (k := 0) rfl (by decide +kernel) (by decide) rfl (fun ls hl => ?_)
    refine lv_goto (tgt := 19) hx hb dX0_setAt_62 (by decide) ?_
    refine lv_iload hx hb dX0_setAt_19 (lv_at hl 0 rfl) ?_
    refine lv_bipush (v := 64) hx hb dX0_setAt_21 (by decide) ?_
    refine lv_icmp_ge (tgt := 65) hx hb dX0_setAt_23 (by decide) (fun c_ => absurd c_ (by decide +kernel)) (fun _ => ?_)
    refine lv_lload_n hx hb dX0_setAt_26 rfl (lv_at hl 3 rfl) ?_
    refine lv_iload hx hb dX0_setAt_27 (lv_at hl 0 rfl) ?_
    refine lv_lshr (v := 0) hx hb dX0_setAt_29 (by decide +kernel) ?_
    refine lv_lconst (v := 1) hx hb dX0_setAt_30 (by decide) ?_
    refine lv_land hx hb dX0_setAt_31 ?_
    refine k_l 0 (by decide +kernel) ?_
    refine lv_lconst (v := 0) hx hb dX0_setAt_32 (by decide) ?_
    refine W.lcmp hx hb dX0_setAt_33 ?_
    refine k_i 0 (by decide +kernel) ?_
    refine lv_if_eq (tgt := 59) hx hb dX0_setAt_34 (by decide) (fun _ => ?_) (fun c_ => absurd (by decide +kernel) c_)
    refine lv_iinc (v := 57) (lv' := [(7, .int 57), (6, .int 1), (5, .int 0), (3, .long 1), (0, .ref a0), (1, .int x0), (2, .ref a1)]) hx hb dX0_setAt_59 hl (k := 0) rfl (by decide +kernel) (by decide) rfl (fun ls hl => ?_)
    refine lv_goto (tgt := 19) hx hb dX0_setAt_62 (by decide) ?_
    refine lv_iload hx hb dX0_setAt_19 (lv_at hl 0 rfl) ?_
    refine lv_bipush (v := 64) hx hb dX0_setAt_21 (by decide) ?_
    refine lv_icmp_ge (tgt := 65) hx hb dX0_setAt_23 (by decide) (fun c_ => absurd c_ (by decide +kernel)) (fun _ => ?_)
    refine lv_lload_n hx hb dX0_setAt_26 rfl (lv_at hl 3 rfl) ?_
    refine lv_iload hx hb dX0_setAt_27 (lv_at hl 0 rfl) ?_
    refine lv_lshr (v := 0) hx hb dX0_setAt_29 (by decide +kernel) ?_
    refine lv_lconst (v := 1) hx hb dX0_setAt_30 (by decide) ?_
    refine lv_land hx hb dX0_setAt_31 ?_
    refine k_l 0 (by decide +kernel) ?_
    refine lv_lconst (v := 0) hx hb dX0_setAt_32 (by decide) ?_
    refine W.lcmp hx hb dX0_setAt_33 ?_
    refine k_i 0 (by decide +kernel) ?_
    refine lv_if_eq (tgt := 59) hx hb dX0_setAt_34 (by decide) (fun _ => ?_) (fun c_ => absurd (by decide +kernel) c_)
    refine lv_iinc (v := 58) (lv' := [(7, .int 58), (6, .int 1), (5, .int 0), (3, .long 1), (0, .ref a0), (1, .int x0), (2, .ref a1)]) hx hb dX0_setAt_59 hl (k := 0) rfl (by decide +kernel) (by decide) rfl (fun ls hl => ?_)
    refine lv_goto (tgt := 19) hx hb dX0_setAt_62 (by decide) ?_
    refine lv_iload hx hb dX0_setAt_19 (lv_at hl 0 rfl) ?_
    refine lv_bipush (v := 64) hx hb dX0_setAt_21 (by decide) ?_
    refine lv_icmp_ge (tgt := 65) hx hb dX0_setAt_23 (by decide) (fun c_ => absurd c_ (by decide +kernel)) (fun _ => ?_)
    refine lv_lload_n hx hb dX0_setAt_26 rfl (lv_at hl 3 rfl) ?_
    refine lv_iload hx hb dX0_setAt_27 (lv_at hl 0 rfl) ?_
    refine lv_lshr (v := 0) hx hb dX0_setAt_29 (by decide +kernel) ?_
    refine lv_lconst (v := 1) hx hb dX0_setAt_30 (by decide) ?_
    refine lv_land hx hb dX0_setAt_31 ?_
    refine k_l 0 (by decide +kernel) ?_
    refine lv_lconst (v := 0) hx hb dX0_setAt_32 (by decide) ?_
    refine W.lcmp hx hb dX0_setAt_33 ?_
    refine k_i 0 (by decide +kernel) ?_
    refine lv_if_eq (tgt := 59) hx hb dX0_setAt_34 (by decide) (fun _ => ?_) (fun c_ => absurd (by decide +kernel) c_)
    refine lv_iinc (v := 59) (lv' := [(7, .int 59), (6, .int 1), (5, .int 0), (3, .long 1), (0, .ref a0), (1, .int x0), (2, .ref a1)]) hx hb dX0_setAt_59 hl (k := 0) rfl (by decide +kernel) (by decide) rfl (fun ls hl => ?_)
    refine lv_goto (tgt := 19) hx hb dX0_setAt_62 (by decide) ?_
    refine lv_iload hx hb dX0_setAt_19 (lv_at hl 0 rfl) ?_
    refine lv_bipush (v := 64) hx hb dX0_setAt_21 (by decide) ?_
    refine lv_icmp_ge (tgt := 65) hx hb dX0_setAt_23 (by decide) (fun c_ => absurd c_ (by decide +kernel)) (fun _ => ?_)
    refine lv_lload_n hx hb dX0_setAt_26 rfl (lv_at hl 3 rfl) ?_
    refine lv_iload hx hb dX0_setAt_27 (lv_at hl 0 rfl) ?_
    refine lv_lshr (v := 0) hx hb dX0_setAt_29 (by decide +kernel) ?_
    refine lv_lconst (v := 1) hx hb dX0_setAt_30 (by decide) ?_
    refine lv_land hx hb dX0_setAt_31 ?_
    refine k_l 0 (by decide +kernel) ?_
    refine lv_lconst (v := 0) hx hb dX0_setAt_32 (by decide) ?_
    refine W.lcmp hx hb dX0_setAt_33 ?_
    refine k_i 0 (by decide +kernel) ?_
    refine lv_if_eq (tgt := 59) hx hb dX0_setAt_34 (by decide) (fun _ => ?_) (fun c_ => absurd (by decide +kernel) c_)
    refine lv_iinc (v := 60) (lv' := [(7, .int 60), (6, .int 1), (5, .int 0), (3, .long 1), (0, .ref a0), (1, .int x0), (2, .ref a1)]) hx hb dX0_setAt_59 hl (k := 0) rfl (by decide +kernel) (by decide) rfl (fun ls hl => ?_)
    refine lv_goto (tgt := 19) hx hb dX0_setAt_62 (by decide) ?_
    refine lv_iload hx hb dX0_setAt_19 (lv_at hl 0 rfl) ?_
    refine lv_bipush (v := 64) hx hb dX0_setAt_21 (by decide) ?_
    refine lv_icmp_ge (tgt := 65) hx hb dX0_setAt_23 (by decide) (fun c_ => absurd c_ (by decide +kernel)) (fun _ => ?_)
    refine lv_lload_n hx hb dX0_setAt_26 rfl (lv_at hl 3 rfl) ?_
    refine lv_iload hx hb dX0_setAt_27 (lv_at hl 0 rfl) ?_
    refine lv_lshr (v := 0) hx hb dX0_setAt_29 (by decide +kernel) ?_
    refine lv_lconst (v := 1) hx hb dX0_setAt_30 (by decide) ?_
    refine lv_land hx hb dX0_setAt_31 ?_
    refine k_l 0 (by decide +kernel) ?_
    refine lv_lconst (v := 0) hx hb dX0_setAt_32 (by decide) ?_
    refine W.lcmp hx hb dX0_setAt_33 ?_
    refine k_i 0 (by decide +kernel) ?_
    refine lv_if_eq (tgt := 59) hx hb dX0_setAt_34 (by decide) (fun _ => ?_) (fun c_ => absurd (by decide +kernel) c_)
    refine lv_iinc (v := 61) (lv' := [(7, .int 61), (6, .int 1), (5, .int 0), (3, .long 1), (0, .ref a0), (1, .int x0), (2, .ref a1)]) hx hb dX0_setAt_59 hl (k := 0) rfl (by decide +kernel) (by decide) rfl (fun ls hl => ?_)
    refine lv_goto (tgt := 19) hx hb dX0_setAt_62 (by decide) ?_
    refine lv_iload hx hb dX0_setAt_19 (lv_at hl 0 rfl) ?_
    refine lv_bipush (v := 64) hx hb dX0_setAt_21 (by decide) ?_
    refine lv_icmp_ge (tgt := 65) hx hb dX0_setAt_23 (by decide) (fun c_ => absurd c_ (by decide +kernel)) (fun _ => ?_)
    refine lv_lload_n hx hb dX0_setAt_26 rfl (lv_at hl 3 rfl) ?_
    refine lv_iload hx hb dX0_setAt_27 (lv_at hl 0 rfl) ?_
    refine lv_lshr (v := 0) hx hb dX0_setAt_29 (by decide +kernel) ?_
    refine lv_lconst (v := 1) hx hb dX0_setAt_30 (by decide) ?_
    refine lv_land hx hb dX0_setAt_31 ?_
    refine k_l 0 (by decide +kernel) ?_
    refine lv_lconst (v := 0) hx hb dX0_setAt_32 (by decide) ?_
    refine W.lcmp hx hb dX0_setAt_33 ?_
    refine k_i 0 (by decide +kernel) ?_
    refine lv_if_eq (tgt := 59) hx hb dX0_setAt_34 (by decide) (fun _ => ?_) (fun c_ => absurd (by decide +kernel) c_)
    refine lv_iinc (v := 62) (lv' := [(7, .int 62), (6, .int 1), (5, .int 0), (3, .long 1), (0, .ref a0), (1, .int x0), (2, .ref a1)]) hx hb dX0_setAt_59 hl (k := 0) rfl (by decide +kernel) (by decide) rfl (fun ls hl => ?_)
    refine lv_goto (tgt := 19) hx hb dX0_setAt_62 (by decide) ?_
    refine lv_iload hx hb dX0_setAt_19 (lv_at hl 0 rfl) ?_
    refine lv_bipush (v := 64) hx hb dX0_setAt_21 (by decide) ?_
    refine lv_icmp_ge (tgt := 65) hx hb dX0_setAt_23 (by decide) (fun c_ => absurd c_ (by decide +kernel)) (fun _ => ?_)
    refine lv_lload_n hx hb dX0_setAt_26 rfl (lv_at hl 3 rfl) ?_
    refine lv_iload hx hb dX0_setAt_27 (lv_at hl 0 rfl) ?_
    refine lv_lshr (v := 0) hx hb dX0_setAt_29 (by decide +kernel) ?_
    refine lv_lconst (v := 1) hx hb dX0_setAt_30 (by decide) ?_
    refine lv_land hx hb dX0_setAt_31 ?_
    refine k_l 0 (by decide +kernel) ?_
    refine lv_lconst (v := 0) hx hb dX0_setAt_32 (by decide) ?_
    refine W.lcmp hx hb dX0_setAt_33 ?_
    refine k_i 0 (by decide +kernel) ?_
    refine lv_if_eq (tgt := 59) hx hb dX0_setAt_34 (by decide) (fun _ => ?_) (fun c_ => absurd (by decide +kernel) c_)
    refine lv_iinc (v := 63) (lv' := [(7, .int 63), (6, .int 1), (5, .int 0), (3, .long 1), (0, .ref a0), (1, .int x0), (2, .ref a1)]) hx hb dX0_setAt_59 hl (k := 0) rfl (by decide +kernel) (by decide) rfl (fun ls hl => ?_)
    refine lv_goto (tgt := 19) hx hb dX0_setAt_62 (by decide) ?_
    refine lv_iload hx hb dX0_setAt_19 (lv_at hl 0 rfl) ?_
    refine lv_bipush (v := 64) hx hb dX0_setAt_21 (by decide) ?_
    refine lv_icmp_ge (tgt := 65) hx hb dX0_setAt_23 (by decide) (fun c_ => absurd c_ (by decide +kernel)) (fun _ => ?_)
    refine lv_lload_n hx hb dX0_setAt_26 rfl (lv_at hl 3 rfl) ?_
    refine lv_iload hx hb dX0_setAt_27 (lv_at hl 0 rfl) ?_
    refine lv_lshr (v := 0) hx hb dX0_setAt_29 (by decide +kernel) ?_
    refine lv_lconst (v := 1) hx hb dX0_setAt_30 (by decide) ?_
    refine lv_land hx hb dX0_setAt_31 ?_
    refine k_l 0 (by decide +kernel) ?_
    refine lv_lconst (v := 0) hx hb dX0_setAt_32 (by decide) ?_
    refine W.lcmp hx hb dX0_setAt_33 ?_
    refine k_i 0 (by decide +kernel) ?_
    refine lv_if_eq (tgt := 59) hx hb dX0_setAt_34 (by decide) (fun _ => ?_) (fun c_ => absurd (by decide +kernel) c_)
    refine lv_iinc (v := 64) (lv' := [(7, .int 64), (6, .int 1), (5, .int 0), (3, .long 1), (0, .ref a0), (1, .int x0), (2, .ref a1)]) hx hb dX0_setAt_59 hl (k := 0) rfl (by decide +kernel) (by decide) rfl (fun ls hl => ?_)
    refine lv_goto (tgt := 19) hx hb dX0_setAt_62 (by decide) ?_
    refine lv_iload hx hb dX0_setAt_19 (lv_at hl 0 rfl) ?_
    refine lv_bipush (v := 64) hx hb dX0_setAt_21 (by decide) ?_
    refine lv_icmp_ge (tgt := 65) hx hb dX0_setAt_23 (by decide) (fun _ => ?_) (fun c_ => absurd (by decide +kernel) c_)
    refine lv_iconst (v := (-1)) hx hb dX0_setAt_65 (by decide) ?_
    exact k_iret hC hr hlk hK hP hD hS () [2, 0, 1] rfl (by decide) (by first | decide | (unfold sp_end; rw [if_neg (by omega)]) | (unfold sp_end; rw [if_pos (by omega)])) (Nat.le_of_ble_eq_true rfl) (Nat.le_of_ble_eq_true rfl) dX0_setAt_66
  · have d_4 : 0 = x0.toInt := (fa_eq _ _).mp c_4
    obtain rfl : x0 = 0 := (fa_eq _ _).mpr (show x0.toInt = 0 by omega)
    refine lv_iload hx hb dX0_setAt_53 (lv_at hl 0 rfl) ?_
    exact k_iret hC hr hlk hK hP hD hS () [2, 0, 1] rfl (by decide) (by first | decide | (unfold sp_end; rw [if_neg (by omega)]) | (unfold sp_end; rw [if_pos (by omega)])) (Nat.le_of_ble_eq_true rfl) (Nat.le_of_ble_eq_true rfl) dX0_setAt_55
theorem dX9_set_0 : decode cX9_set 0 = .ok (.iload_n 1, 1) := by decide +kernel
theorem dX9_set_1 : decode cX9_set 1 = .ok (.ifCond .lt 11, 3) := by decide +kernel
theorem dX9_set_12 : decode cX9_set 12 = .ok (.iconst (-1), 1) := by decide +kernel
theorem dX9_set_13 : decode cX9_set 13 = .ok (.ireturn, 1) := by decide +kernel
theorem dX9_set_4 : decode cX9_set 4 = .ok (.aload_n 0, 1) := by decide +kernel
theorem dX9_set_5 : decode cX9_set 5 = .ok (.iload_n 2, 1) := by decide +kernel
theorem dX9_set_6 : decode cX9_set 6 = .ok (.invokevirtual 125, 3) := by decide +kernel
theorem dX9_set_9 : decode cX9_set 9 = .ok (.ifCond .gt 5, 3) := by decide +kernel
theorem dX9_set_14 : decode cX9_set 14 = .ok (.aload_n 0, 1) := by decide +kernel
theorem dX9_set_15 : decode cX9_set 15 = .ok (.getfield 50, 3) := by decide +kernel
theorem dX9_set_18 : decode cX9_set 18 = .ok (.iload_n 1, 1) := by decide +kernel
theorem dX9_set_19 : decode cX9_set 19 = .ok (.aload_n 0, 1) := by decide +kernel
theorem dX9_set_20 : decode cX9_set 20 = .ok (.getfield 10, 3) := by decide +kernel
theorem dX9_set_23 : decode cX9_set 23 = .ok (.invokevirtual 167, 3) := by decide +kernel
set_option maxRecDepth 100000 in
theorem wm_X9_167 : Cond.methodLink RX9 167 yX0_setAt ∈ gw := gm (List.mem_of_getElem? (i := 1024) (by decide +kernel)) rfl
set_option maxRecDepth 100000 in
theorem mi_X0_setAt : MI yX0_setAt cX0_setAt 8 (some .int) 2 := ⟨gm (List.mem_of_getElem? (i := 1027) rfl) rfl, gm (List.mem_of_getElem? (i := 121) (by decide +kernel)) rfl, by decide, by decide, by decide +kernel⟩
set_option maxRecDepth 100000 in
theorem in_X0_setAt : Cond.instanceMethod yX0_setAt ∈ gw := gm (List.mem_of_getElem? (i := 1025) (by decide +kernel)) rfl
set_option maxRecDepth 100000 in
theorem se_X0_setAt : Cond.selects yX0_setAt.cls yX0_setAt yX0_setAt ∈ gw := gm (List.mem_of_getElem? (i := 1026) (by decide +kernel)) rfl
theorem dX9_set_26 : decode cX9_set 26 = .ok (.ireturn, 1) := by decide +kernel
set_option maxHeartbeats 4000000 in
set_option maxRecDepth 100000 in
theorem c99_X9_set (l : Launch) (G : va_G) (cI cJ cB cZ : ClassId) (a0 a1 a2 a3 a4 a5 a6 a7 a8 a9 a10 a11 a12 a13 a14 a15 a16 a17 a18 a19 a20 a21 a22 a23 a24 a25 a26 a27 a28 a29 a30 a31 a32 a33 a34 a35 a36 a37 a38 a39 a40 a41 a42 a43 a44 a45 a46 : Nat) (x0 : Int32) (x1 : Int32) : Con l G (TY cI cJ cB cZ) yX9_set cX9_set 3 (some .int) ({ frames := 4, cells := 0, slots := 0, locals := 94 } : Room) [.ref a0, .int x0, .int x1] [(a0, .inr (9, [.ref a1, .ref a2, .ref a3, .int 0, .int 0, .ref a4, .ref a5, .ref a6, .ref a7])), (a1, .inr (7, [.int 100, .int 100, .int 0, .ref a8, .ref a9, .int 0, .ref a10, .ref a11, .ref a12, .ref a13, .ref a14, .ref a15, .ref a16, .ref a17, .ref a18])), (a9, .inl (cI, 2, .inl (upd (upd (fun _ => 0) 0 16) 1 16))), (a8, .inl (cI, 2, .inl (upd (upd (fun _ => 0) 0 16) 1 16))), (a17, .inr (8, [.ref a19, .ref a20, .ref a21, .ref a22, .ref a23, .ref a24, .ref a25, .int 0])), (a3, .inr (8, [.ref a26, .ref a27, .ref a28, .ref a29, .ref a30, .ref a31, .ref a32, .int 0])), (a5, .inr (0, [.ref a33, .int 0, .int 0, .long 0, .int 0, .int 0, .long 0])), (a4, .inr (4, [.ref a34, .ref a5, .ref a35, .ref a36, .ref a37, .ref a38, .ref a39, .int 100, .int 0, .int 0, .int (-1)])), (a35, .inr (8, [.ref a40, .ref a41, .ref a42, .ref a43, .ref a44, .ref a45, .ref a46, .int 0])), (a36, .inl (cI, 7, .inl (fun _ => 0))), (a33, .inl (cJ, 256, .inr (.inl (fun _ => 0))))] (QI G (TY cI cJ cB cZ) (fun (r : Int32) (u : Unit) => r = sp_end x0) (fun u : Unit => [])) := by
  refine k_met (by decide) (Nat.le_of_ble_eq_true rfl) ?_
  intro p e s m below meth c A ls hC hr hlk hnm hN hK hA hP hD hS hl
  have hl : lv_has ls 3 [(0, .ref a0), (1, .int x0), (2, .int x1)] := hl
  obtain ⟨hx, hb, hml, hown, hts⟩ := id hC
  refine lv_iload_n hx hb dX9_set_0 rfl (lv_at hl 1 rfl) ?_
  refine lv_if_lt (tgt := 12) hx hb dX9_set_1 (by decide) (fun c_1 => ?_) (fun c_1 => ?_)
  · have d_1 : x0.toInt < 0 := (fa_lt _ _).mp c_1
    refine lv_iconst (v := (-1)) hx hb dX9_set_12 (by decide) ?_
    exact k_iret hC hr hlk hK hP hD hS () [] rfl (by decide) (by first | decide | (unfold sp_end; rw [if_neg (by omega)]) | (unfold sp_end; rw [if_pos (by omega)])) (Nat.le_of_ble_eq_true rfl) (Nat.le_of_ble_eq_true rfl) dX9_set_13
  · have d_1 : 0 ≤ x0.toInt := fa_nlt c_1
    refine lv_aload_n hx hb dX9_set_4 rfl (lv_at hl 0 rfl) ?_
    refine lv_iload_n hx hb dX9_set_5 rfl (lv_at hl 2 rfl) ?_
    refine k_ci (wr := []) (k_rV hC hN hK hP hD (c65_X9_known l G cI cJ cB cZ a0 a1 a2 a3 a4 a5 a6 a7 a8 a9 a10 a11 a12 a13 a14 a15 a16 a17 a18 a19 a20 a21 a22 a23 a24 a25 a26 a27 a28 a29 a30 a31 a32 a33 a34 a35 a36 a37 a38 a39 a40 a41 a42 a43 a44 a45 a46 x1) [0, 1, 2, 3, 4, 5, 6, 7, 8, 9, 10] rfl (by decide) mi_X9_known in_X9_known se_X9_known wm_X9_125 9 0 rfl rfl rfl hl.1 rfl rfl (Nat.le_of_ble_eq_true rfl) ⟨(Nat.le_of_ble_eq_true rfl), (Nat.le_of_ble_eq_true rfl)⟩ dX9_set_6 ⟨(Nat.le_of_ble_eq_true rfl), (Nat.le_of_ble_eq_true rfl)⟩) hP hD hS hA [0, 1, 2, 3, 4, 5, 6, 7, 8, 9, 10] [] rfl rfl (by decide) (by decide) (fun r2 u2 H locs hp hP hD hS => ?_)
    have hP : va_P G cl [(a0, .inr (9, [.ref a1, .ref a2, .ref a3, .int 0, .int 0, .ref a4, .ref a5, .ref a6, .ref a7])), (a1, .inr (7, [.int 100, .int 100, .int 0, .ref a8, .ref a9, .int 0, .ref a10, .ref a11, .ref a12, .ref a13, .ref a14, .ref a15, .ref a16, .ref a17, .ref a18])), (a9, .inl (cI, 2, .inl (upd (upd (fun _ => 0) 0 16) 1 16))), (a8, .inl (cI, 2, .inl (upd (upd (fun _ => 0) 0 16) 1 16))), (a17, .inr (8, [.ref a19, .ref a20, .ref a21, .ref a22, .ref a23, .ref a24, .ref a25, .int 0])), (a3, .inr (8, [.ref a26, .ref a27, .ref a28, .ref a29, .ref a30, .ref a31, .ref a32, .int 0])), (a5, .inr (0, [.ref a33, .int 1, .int 1, .long 0, .int 1, .int 0, .long 0])), (a4, .inr (4, [.ref a1, .ref a5, .ref a35, .ref a36, .ref a37, .ref a38, .ref a39, .int 100, .int 0, .int 0, .int (-1)])), (a35, .inr (8, [.ref a40, .ref a41, .ref a42, .ref a43, .ref a44, .ref a45, .ref a46, .int 0])), (a36, .inl (cI, 7, .inl (fun _ => 0))), (a33, .inl (cJ, 256, .inr (.inl (vp_updL (fun _ => 0) 0 0))))] H := hP
    have hD : va_D A [(a0, .inr (9, [.ref a1, .ref a2, .ref a3, .int 0, .int 0, .ref a4, .ref a5, .ref a6, .ref a7])), (a1, .inr (7, [.int 100, .int 100, .int 0, .ref a8, .ref a9, .int 0, .ref a10, .ref a11, .ref a12, .ref a13, .ref a14, .ref a15, .ref a16, .ref a17, .ref a18])), (a9, .inl (cI, 2, .inl (upd (upd (fun _ => 0) 0 16) 1 16))), (a8, .inl (cI, 2, .inl (upd (upd (fun _ => 0) 0 16) 1 16))), (a17, .inr (8, [.ref a19, .ref a20, .ref a21, .ref a22, .ref a23, .ref a24, .ref a25, .int 0])), (a3, .inr (8, [.ref a26, .ref a27, .ref a28, .ref a29, .ref a30, .ref a31, .ref a32, .int 0])), (a5, .inr (0, [.ref a33, .int 1, .int 1, .long 0, .int 1, .int 0, .long 0])), (a4, .inr (4, [.ref a1, .ref a5, .ref a35, .ref a36, .ref a37, .ref a38, .ref a39, .int 100, .int 0, .int 0, .int (-1)])), (a35, .inr (8, [.ref a40, .ref a41, .ref a42, .ref a43, .ref a44, .ref a45, .ref a46, .int 0])), (a36, .inl (cI, 7, .inl (fun _ => 0))), (a33, .inl (cJ, 256, .inr (.inl (vp_updL (fun _ => 0) 0 0))))] := hD
    subst hp
    refine lv_if_gt (tgt := 14) hx hb dX9_set_9 (by decide) (fun _ => ?_) (fun c_ => absurd (by decide +kernel) c_)
    refine lv_aload_n hx hb dX9_set_14 rfl (lv_at hl 0 rfl) ?_
    refine k_get hC hK hP iX9 0 6 wf_X9_50 rfl (by decide) rfl rfl dX9_set_15 ?_
    refine lv_iload_n hx hb dX9_set_18 rfl (lv_at hl 1 rfl) ?_
    refine lv_aload_n hx hb dX9_set_19 rfl (lv_at hl 0 rfl) ?_
    refine k_get hC hK hP iX9 0 0 wf_X9_10 rfl (by decide) rfl rfl dX9_set_20 ?_
    refine k_ci (wr := [(a0, .inr (9, [.ref a1, .ref a2, .ref a3, .int 0, .int 0, .ref a4, .ref a5, .ref a6, .ref a7])), (a9, .inl (cI, 2, .inl (upd (upd (fun _ => 0) 0 16) 1 16))), (a8, .inl (cI, 2, .inl (upd (upd (fun _ => 0) 0 16) 1 16))), (a17, .inr (8, [.ref a19, .ref a20, .ref a21, .ref a22, .ref a23, .ref a24, .ref a25, .int 0])), (a3, .inr (8, [.ref a26, .ref a27, .ref a28, .ref a29, .ref a30, .ref a31, .ref a32, .int 0])), (a4, .inr (4, [.ref a1, .ref a5, .ref a35, .ref a36, .ref a37, .ref a38, .ref a39, .int 100, .int 0, .int 0, .int (-1)])), (a35, .inr (8, [.ref a40, .ref a41, .ref a42, .ref a43, .ref a44, .ref a45, .ref a46, .int 0])), (a36, .inl (cI, 7, .inl (fun _ => 0)))]) (k_rV hC hN hK hP hD (c98_X0_setAt l G cI cJ cB cZ a5 a1 a33 a8 a9 a10 a11 a12 a13 a14 a15 a16 a17 a18 x0) [6, 10, 1] rfl (by decide) mi_X0_setAt in_X0_setAt se_X0_setAt wm_X9_167 0 6 rfl rfl rfl hl.1 rfl rfl (Nat.le_of_ble_eq_true rfl) ⟨(Nat.le_of_ble_eq_true rfl), (Nat.le_of_ble_eq_true rfl)⟩ dX9_set_23 ⟨(Nat.le_of_ble_eq_true rfl), (Nat.le_of_ble_eq_true rfl)⟩) hP hD hS hA [6, 10, 1] [0, 2, 3, 4, 5, 7, 8, 9] rfl rfl (by decide) (by decide) (fun r3 u3 H locs hp hP hD hS => ?_)
    have hP : va_P G cl [(a0, .inr (9, [.ref a1, .ref a2, .ref a3, .int 0, .int 0, .ref a4, .ref a5, .ref a6, .ref a7])), (a9, .inl (cI, 2, .inl (upd (upd (fun _ => 0) 0 16) 1 16))), (a8, .inl (cI, 2, .inl (upd (upd (fun _ => 0) 0 16) 1 16))), (a17, .inr (8, [.ref a19, .ref a20, .ref a21, .ref a22, .ref a23, .ref a24, .ref a25, .int 0])), (a3, .inr (8, [.ref a26, .ref a27, .ref a28, .ref a29, .ref a30, .ref a31, .ref a32, .int 0])), (a4, .inr (4, [.ref a1, .ref a5, .ref a35, .ref a36, .ref a37, .ref a38, .ref a39, .int 100, .int 0, .int 0, .int (-1)])), (a35, .inr (8, [.ref a40, .ref a41, .ref a42, .ref a43, .ref a44, .ref a45, .ref a46, .int 0])), (a36, .inl (cI, 7, .inl (fun _ => 0))), (a5, .inr (0, [.ref a33, .int 1, .int 1, .long 0, .int 1, .int 1, .long 1])), (a33, .inl (cJ, 256, .inr (.inl (vp_updL (fun _ => 0) 0 0)))), (a1, .inr (7, [.int 100, .int 100, .int 0, .ref a8, .ref a9, .int 0, .ref a10, .ref a11, .ref a12, .ref a13, .ref a14, .ref a15, .ref a16, .ref a17, .ref a18]))] H := hP
    have hD : va_D A [(a0, .inr (9, [.ref a1, .ref a2, .ref a3, .int 0, .int 0, .ref a4, .ref a5, .ref a6, .ref a7])), (a9, .inl (cI, 2, .inl (upd (upd (fun _ => 0) 0 16) 1 16))), (a8, .inl (cI, 2, .inl (upd (upd (fun _ => 0) 0 16) 1 16))), (a17, .inr (8, [.ref a19, .ref a20, .ref a21, .ref a22, .ref a23, .ref a24, .ref a25, .int 0])), (a3, .inr (8, [.ref a26, .ref a27, .ref a28, .ref a29, .ref a30, .ref a31, .ref a32, .int 0])), (a4, .inr (4, [.ref a1, .ref a5, .ref a35, .ref a36, .ref a37, .ref a38, .ref a39, .int 100, .int 0, .int 0, .int (-1)])), (a35, .inr (8, [.ref a40, .ref a41, .ref a42, .ref a43, .ref a44, .ref a45, .ref a46, .int 0])), (a36, .inl (cI, 7, .inl (fun _ => 0))), (a5, .inr (0, [.ref a33, .int 1, .int 1, .long 0, .int 1, .int 1, .long 1])), (a33, .inl (cJ, 256, .inr (.inl (vp_updL (fun _ => 0) 0 0)))), (a1, .inr (7, [.int 100, .int 100, .int 0, .ref a8, .ref a9, .int 0, .ref a10, .ref a11, .ref a12, .ref a13, .ref a14, .ref a15, .ref a16, .ref a17, .ref a18]))] := hD
    have hp3 := hp
    exact k_iret hC hr hlk hK hP hD hS () [] rfl (by decide) hp3 (Nat.le_of_ble_eq_true rfl) (Nat.le_of_ble_eq_true rfl) dX9_set_26

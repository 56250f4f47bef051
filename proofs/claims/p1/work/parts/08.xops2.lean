theorem dX7_ways_0 : decode cX7_ways 0 = .ok (.aload_n 0, 1) := by decide +kernel
theorem dX7_ways_1 : decode cX7_ways 1 = .ok (.getfield 63, 3) := by decide +kernel
theorem dX7_ways_4 : decode cX7_ways 4 = .ok (.aload_n 0, 1) := by decide +kernel
theorem dX7_ways_5 : decode cX7_ways 5 = .ok (.getfield 59, 3) := by decide +kernel
theorem dX7_ways_8 : decode cX7_ways 8 = .ok (.isub, 1) := by decide +kernel
theorem dX7_ways_9 : decode cX7_ways 9 = .ok (.iconst 1, 1) := by decide +kernel
theorem dX7_ways_10 : decode cX7_ways 10 = .ok (.iadd, 1) := by decide +kernel
theorem dX7_ways_11 : decode cX7_ways 11 = .ok (.istore_n 1, 1) := by decide +kernel
theorem dX7_ways_12 : decode cX7_ways 12 = .ok (.iconst 0, 1) := by decide +kernel
theorem dX7_ways_13 : decode cX7_ways 13 = .ok (.istore_n 2, 1) := by decide +kernel
theorem dX7_ways_14 : decode cX7_ways 14 = .ok (.iload_n 2, 1) := by decide +kernel
theorem dX7_ways_15 : decode cX7_ways 15 = .ok (.iconst 2, 1) := by decide +kernel
theorem dX7_ways_16 : decode cX7_ways 16 = .ok (.if_icmp .ge 27, 3) := by decide +kernel
theorem dX7_ways_19 : decode cX7_ways 19 = .ok (.iload_n 1, 1) := by decide +kernel
theorem dX7_ways_20 : decode cX7_ways 20 = .ok (.aload_n 0, 1) := by decide +kernel
theorem dX7_ways_21 : decode cX7_ways 21 = .ok (.getfield 15, 3) := by decide +kernel
theorem dX7_ways_24 : decode cX7_ways 24 = .ok (.iload_n 2, 1) := by decide +kernel
theorem dX7_ways_25 : decode cX7_ways 25 = .ok (.iaload, 1) := by decide +kernel
theorem dX7_ways_26 : decode cX7_ways 26 = .ok (.aload_n 0, 1) := by decide +kernel
theorem dX7_ways_27 : decode cX7_ways 27 = .ok (.getfield 9, 3) := by decide +kernel
theorem dX7_ways_30 : decode cX7_ways 30 = .ok (.iload_n 2, 1) := by decide +kernel
theorem dX7_ways_31 : decode cX7_ways 31 = .ok (.iaload, 1) := by decide +kernel
theorem dX7_ways_32 : decode cX7_ways 32 = .ok (.isub, 1) := by decide +kernel
theorem dX7_ways_33 : decode cX7_ways 33 = .ok (.iconst 1, 1) := by decide +kernel
theorem dX7_ways_34 : decode cX7_ways 34 = .ok (.iadd, 1) := by decide +kernel
theorem dX7_ways_35 : decode cX7_ways 35 = .ok (.imul, 1) := by decide +kernel
theorem dX7_ways_36 : decode cX7_ways 36 = .ok (.istore_n 1, 1) := by decide +kernel
theorem dX7_ways_37 : decode cX7_ways 37 = .ok (.iinc 2 1, 3) := by decide +kernel
theorem dX7_ways_40 : decode cX7_ways 40 = .ok (.goto (-26), 3) := by decide +kernel
theorem dX7_ways_43 : decode cX7_ways 43 = .ok (.iconst 0, 1) := by decide +kernel
theorem dX7_ways_44 : decode cX7_ways 44 = .ok (.istore_n 2, 1) := by decide +kernel
theorem dX7_ways_45 : decode cX7_ways 45 = .ok (.iload_n 2, 1) := by decide +kernel
theorem dX7_ways_46 : decode cX7_ways 46 = .ok (.aload_n 0, 1) := by decide +kernel
theorem dX7_ways_47 : decode cX7_ways 47 = .ok (.getfield 75, 3) := by decide +kernel
theorem dX7_ways_50 : decode cX7_ways 50 = .ok (.if_icmp .ge 22, 3) := by decide +kernel
theorem dX7_ways_72 : decode cX7_ways 72 = .ok (.iload_n 1, 1) := by decide +kernel
theorem dX7_ways_73 : decode cX7_ways 73 = .ok (.ireturn, 1) := by decide +kernel
set_option maxHeartbeats 4000000 in
set_option maxRecDepth 100000 in
theorem c49_X7_ways (l : Launch) (G : va_G) (cI cJ cB cZ : ClassId) (a0 a1 a2 a3 a4 a5 a6 a7 a8 a9 a10 a11 : Nat) : Con l G (TY cI cJ cB cZ) yX7_ways cX7_ways 3 (some .int) ({ frames := 0, cells := 0, slots := 0, locals := 0 } : Room) [.ref a0] [(a0, .inr (7, [.int 100, .int 100, .int 0, .ref a1, .ref a2, .int 0, .ref a3, .ref a4, .ref a5, .ref a6, .ref a7, .ref a8, .ref a9, .ref a10, .ref a11])), (a2, .inl (cI, 2, .inl (upd (upd (fun _ => 0) 0 16) 1 16))), (a1, .inl (cI, 2, .inl (upd (upd (fun _ => 0) 0 16) 1 16)))] (QI G (TY cI cJ cB cZ) (fun (r : Int32) (u : Unit) => r = 1) (fun u : Unit => [(a0, .inr (7, [.int 100, .int 100, .int 0, .ref a1, .ref a2, .int 0, .ref a3, .ref a4, .ref a5, .ref a6, .ref a7, .ref a8, .ref a9, .ref a10, .ref a11])), (a2, .inl (cI, 2, .inl (upd (upd (fun _ => 0) 0 16) 1 16))), (a1, .inl (cI, 2, .inl (upd (upd (fun _ => 0) 0 16) 1 16)))])) := by
  refine k_met (by decide) (Nat.le_of_ble_eq_true rfl) ?_
  intro p e s m below meth c A ls hC hr hlk hnm hN hK hA hP hD hS hl
  have hl : lv_has ls 3 [(0, .ref a0)] := hl
  obtain ⟨hx, hb, hml, hown, hts⟩ := id hC
  refine lv_aload_n hx hb dX7_ways_0 rfl (lv_at hl 0 rfl) ?_
  refine k_get hC hK hP iX7 0 1 wf_X7_63 rfl (by decide) rfl rfl dX7_ways_1 ?_
  refine lv_aload_n hx hb dX7_ways_4 rfl (lv_at hl 0 rfl) ?_
  refine k_get hC hK hP iX7 0 0 wf_X7_59 rfl (by decide) rfl rfl dX7_ways_5 ?_
  refine lv_isub hx hb dX7_ways_8 ?_
  refine k_i 0 (by decide +kernel) ?_
  refine lv_iconst (v := 1) hx hb dX7_ways_9 (by decide) ?_
  refine lv_iadd hx hb dX7_ways_10 ?_
  refine k_i 1 (by decide +kernel) ?_
  refine lv_istore_n (lv' := [(1, .int 1), (0, .ref a0)]) hx hb dX7_ways_11 rfl hl (by decide) rfl (fun ls hl => ?_)
  refine lv_iconst (v := 0) hx hb dX7_ways_12 (by decide) ?_
  refine lv_istore_n (lv' := [(2, .int 0), (1, .int 1), (0, .ref a0)]) hx hb dX7_ways_13 rfl hl (by decide) rfl (fun ls hl => ?_)
  refine lv_iload_n hx hb dX7_ways_14 rfl (lv_at hl 0 rfl) ?_
  refine lv_iconst (v := 2) hx hb dX7_ways_15 (by decide) ?_
  refine lv_icmp_ge (tgt := 43) hx hb dX7_ways_16 (by decide) (fun c_ => absurd c_ (by decide +kernel)) (fun _ => ?_)
  refine lv_iload_n hx hb dX7_ways_19 rfl (lv_at hl 1 rfl) ?_
  refine lv_aload_n hx hb dX7_ways_20 rfl (lv_at hl 2 rfl) ?_
  refine k_get hC hK hP iX7 0 4 wf_X7_15 rfl (by decide) rfl rfl dX7_ways_21 ?_
  refine lv_iload_n hx hb dX7_ways_24 rfl (lv_at hl 0 rfl) ?_
  refine k_iald (v := 16) hC hK hP 1 0 rfl (by decide +kernel) (by decide) (by decide +kernel) dX7_ways_25 ?_
  refine lv_aload_n hx hb dX7_ways_26 rfl (lv_at hl 2 rfl) ?_
  refine k_get hC hK hP iX7 0 3 wf_X7_9 rfl (by decide) rfl rfl dX7_ways_27 ?_
  refine lv_iload_n hx hb dX7_ways_30 rfl (lv_at hl 0 rfl) ?_
  refine k_iald (v := 16) hC hK hP 2 0 rfl (by decide +kernel) (by decide) (by decide +kernel) dX7_ways_31 ?_
  refine lv_isub hx hb dX7_ways_32 ?_
  refine k_i 0 (by decide +kernel) ?_
  refine lv_iconst (v := 1) hx hb dX7_ways_33 (by decide) ?_
  refine lv_iadd hx hb dX7_ways_34 ?_
  refine k_i 1 (by decide +kernel) ?_
  refine lv_imul hx hb dX7_ways_35 ?_
  refine k_i 1 (by decide +kernel) ?_
  refine lv_istore_n (lv' := [(1, .int 1), (2, .int 0), (0, .ref a0)]) hx hb dX7_ways_36 rfl hl (by decide) rfl (fun ls hl => ?_)
  refine lv_iinc (v := 1) (lv' := [(2, .int 1), (1, .int 1), (0, .ref a0)]) hx hb dX7_ways_37 hl (k := 1) rfl (by decide +kernel) (by decide) rfl (fun ls hl => ?_)
  refine lv_goto (tgt := 14) hx hb dX7_ways_40 (by decide) ?_
  refine lv_iload_n hx hb dX7_ways_14 rfl (lv_at hl 0 rfl) ?_
  refine lv_iconst (v := 2) hx hb dX7_ways_15 (by decide) ?_
  refine lv_icmp_ge (tgt := 43) hx hb dX7_ways_16 (by decide) (fun c_ => absurd c_ (by decide +kernel)) (fun _ => ?_)
  refine lv_iload_n hx hb dX7_ways_19 rfl (lv_at hl 1 rfl) ?_
  refine lv_aload_n hx hb dX7_ways_20 rfl (lv_at hl 2 rfl) ?_
  refine k_get hC hK hP iX7 0 4 wf_X7_15 rfl (by decide) rfl rfl dX7_ways_21 ?_
  refine lv_iload_n hx hb dX7_ways_24 rfl (lv_at hl 0 rfl) ?_
  refine k_iald (v := 16) hC hK hP 1 1 rfl (by decide +kernel) (by decide) (by decide +kernel) dX7_ways_25 ?_
  refine lv_aload_n hx hb dX7_ways_26 rfl (lv_at hl 2 rfl) ?_
  refine k_get hC hK hP iX7 0 3 wf_X7_9 rfl (by decide) rfl rfl dX7_ways_27 ?_
  refine lv_iload_n hx hb dX7_ways_30 rfl (lv_at hl 0 rfl) ?_
  refine k_iald (v := 16) hC hK hP 2 1 rfl (by decide +kernel) (by decide) (by decide +kernel) dX7_ways_31 ?_
  refine lv_isub hx hb dX7_ways_32 ?_
  refine k_i 0 (by decide +kernel) ?_
  refine lv_iconst (v := 1) hx hb dX7_ways_33 (by decide) ?_
  refine lv_iadd hx hb dX7_ways_34 ?_
  refine k_i 1 (by decide +kernel) ?_
  refine lv_imul hx hb dX7_ways_35 ?_
  refine k_i 1 (by decide +kernel) ?_
  refine lv_istore_n (lv' := [(1, .int 1), (2, .int 1), (0, .ref a0)]) hx hb dX7_ways_36 rfl hl (by decide) rfl (fun ls hl => ?_)
  refine lv_iinc (v := 2) (lv' := [(2, .int 2), (1, .int 1), (0, .ref a0)]) hx hb dX7_ways_37 hl (k := 1) rfl (by decide +kernel) (by decide) rfl (fun ls hl => ?_)
  refine lv_goto (tgt := 14) hx hb dX7_ways_40 (by decide) ?_
  refine lv_iload_n hx hb dX7_ways_14 rfl (lv_at hl 0 rfl) ?_
  refine lv_iconst (v := 2) hx hb dX7_ways_15 (by decide) ?_
  refine lv_icmp_ge (tgt := 43) hx hb dX7_ways_16 (by decide) (fun _ => ?_) (fun c_ => absurd (by decide +kernel) c_)
  refine lv_iconst (v := 0) hx hb dX7_ways_43 (by decide) ?_
  refine lv_istore_n (lv' := [(2, .int 0), (1, .int 1), (0, .ref a0)]) hx hb dX7_ways_44 rfl hl (by decide) rfl (fun ls hl => ?_)
  refine lv_iload_n hx hb dX7_ways_45 rfl (lv_at hl 0 rfl) ?_
  refine lv_aload_n hx hb dX7_ways_46 rfl (lv_at hl 2 rfl) ?_
  refine k_get hC hK hP iX7 0 5 wf_X7_75 rfl (by decide) rfl rfl dX7_ways_47 ?_
  refine lv_icmp_ge (tgt := 72) hx hb dX7_ways_50 (by decide) (fun _ => ?_) (fun c_ => absurd (by decide +kernel) c_)
  refine lv_iload_n hx hb dX7_ways_72 rfl (lv_at hl 1 rfl) ?_
  exact k_iret hC hr hlk hK hP hD hS () [0, 1, 2] rfl (by decide) rfl (Nat.le_of_ble_eq_true rfl) (Nat.le_of_ble_eq_true rfl) dX7_ways_73
theorem dX9_countingAt_0 : decode cX9_countingAt 0 = .ok (.lconst 0, 1) := by decide +kernel
theorem dX9_countingAt_1 : decode cX9_countingAt 1 = .ok (.lstore_n 2, 1) := by decide +kernel
theorem dX9_countingAt_2 : decode cX9_countingAt 2 = .ok (.aload_n 0, 1) := by decide +kernel
theorem dX9_countingAt_3 : decode cX9_countingAt 3 = .ok (.getfield 10, 3) := by decide +kernel
theorem dX9_countingAt_6 : decode cX9_countingAt 6 = .ok (.getfield 289, 3) := by decide +kernel
set_option maxRecDepth 100000 in
theorem wf_X9_289 : Cond.fieldLinkNest RX9 289 "StoneTrust$Village" "weighings" "LStoneTrust$Weighings;" "StoneTrust" ∈ nests := nm_ (List.mem_of_getElem? (i := 262) (by decide +kernel)) rfl
theorem dX9_countingAt_9 : decode cX9_countingAt 9 = .ok (.astore 4, 2) := by decide +kernel
theorem dX9_countingAt_11 : decode cX9_countingAt 11 = .ok (.iconst 0, 1) := by decide +kernel
theorem dX9_countingAt_12 : decode cX9_countingAt 12 = .ok (.istore 5, 2) := by decide +kernel
theorem dX9_countingAt_14 : decode cX9_countingAt 14 = .ok (.iload 5, 2) := by decide +kernel
theorem dX9_countingAt_16 : decode cX9_countingAt 16 = .ok (.aload 4, 2) := by decide +kernel
theorem dX9_countingAt_18 : decode cX9_countingAt 18 = .ok (.getfield 85, 3) := by decide +kernel
theorem dX9_countingAt_21 : decode cX9_countingAt 21 = .ok (.if_icmp .ge 31, 3) := by decide +kernel
theorem dX9_countingAt_52 : decode cX9_countingAt 52 = .ok (.iconst 0, 1) := by decide +kernel
theorem dX9_countingAt_53 : decode cX9_countingAt 53 = .ok (.istore 5, 2) := by decide +kernel
theorem dX9_countingAt_55 : decode cX9_countingAt 55 = .ok (.iload 5, 2) := by decide +kernel
theorem dX9_countingAt_57 : decode cX9_countingAt 57 = .ok (.aload_n 0, 1) := by decide +kernel
theorem dX9_countingAt_58 : decode cX9_countingAt 58 = .ok (.getfield 28, 3) := by decide +kernel
theorem dX9_countingAt_61 : decode cX9_countingAt 61 = .ok (.getfield 85, 3) := by decide +kernel
theorem dX9_countingAt_64 : decode cX9_countingAt 64 = .ok (.if_icmp .ge 49, 3) := by decide +kernel
theorem dX9_countingAt_113 : decode cX9_countingAt 113 = .ok (.lload_n 2, 1) := by decide +kernel
theorem dX9_countingAt_114 : decode cX9_countingAt 114 = .ok (.lreturn, 1) := by decide +kernel
set_option maxHeartbeats 4000000 in
set_option maxRecDepth 100000 in
theorem c50_X9_countingAt (l : Launch) (G : va_G) (cI cJ cB cZ : ClassId) (a0 a1 a2 a3 a4 a5 a6 a7 a8 a9 a10 a11 a12 a13 a14 a15 a16 a17 a18 a19 a20 a21 a22 a23 a24 a25 a26 a27 a28 a29 a30 a31 a32 : Nat) (x0 : Int32) : Con l G (TY cI cJ cB cZ) yX9_countingAt cX9_countingAt 6 (some .long) ({ frames := 0, cells := 0, slots := 0, locals := 0 } : Room) [.ref a0, .int x0] [(a0, .inr (9, [.ref a1, .ref a2, .ref a3, .int 0, .int 0, .ref a4, .ref a5, .ref a6, .ref a7])), (a1, .inr (7, [.int 100, .int 100, .int 0, .ref a8, .ref a9, .int 0, .ref a10, .ref a11, .ref a12, .ref a13, .ref a14, .ref a15, .ref a16, .ref a17, .ref a18])), (a17, .inr (8, [.ref a19, .ref a20, .ref a21, .ref a22, .ref a23, .ref a24, .ref a25, .int 0])), (a3, .inr (8, [.ref a26, .ref a27, .ref a28, .ref a29, .ref a30, .ref a31, .ref a32, .int 0]))] (QL G (TY cI cJ cB cZ) (fun (r : Int64) (u : Unit) => r = 0) (fun u : Unit => [(a0, .inr (9, [.ref a1, .ref a2, .ref a3, .int 0, .int 0, .ref a4, .ref a5, .ref a6, .ref a7])), (a1, .inr (7, [.int 100, .int 100, .int 0, .ref a8, .ref a9, .int 0, .ref a10, .ref a11, .ref a12, .ref a13, .ref a14, .ref a15, .ref a16, .ref a17, .ref a18])), (a17, .inr (8, [.ref a19, .ref a20, .ref a21, .ref a22, .ref a23, .ref a24, .ref a25, .int 0])), (a3, .inr (8, [.ref a26, .ref a27, .ref a28, .ref a29, .ref a30, .ref a31, .ref a32, .int 0]))])) := by
  refine k_met (by decide) (Nat.le_of_ble_eq_true rfl) ?_
  intro p e s m below meth c A ls hC hr hlk hnm hN hK hA hP hD hS hl
  have hl : lv_has ls 6 [(0, .ref a0), (1, .int x0)] := hl
  obtain ⟨hx, hb, hml, hown, hts⟩ := id hC
  refine lv_lconst (v := 0) hx hb dX9_countingAt_0 (by decide) ?_
  refine lv_lstore_n (lv' := [(2, .long 0), (0, .ref a0), (1, .int x0)]) hx hb dX9_countingAt_1 rfl hl (by decide) rfl (fun ls hl => ?_)
  refine lv_aload_n hx hb dX9_countingAt_2 rfl (lv_at hl 1 rfl) ?_
  refine k_get hC hK hP iX9 0 0 wf_X9_10 rfl (by decide) rfl rfl dX9_countingAt_3 ?_
  refine k_getN hC hN hK hP iX7 1 13 wf_X9_289 rfl (by decide) rfl rfl dX9_countingAt_6 ?_
  refine lv_astore (lv' := [(4, .ref a17), (2, .long 0), (0, .ref a0), (1, .int x0)]) hx hb dX9_countingAt_9 hl (by decide) rfl (fun ls hl => ?_)
  refine lv_iconst (v := 0) hx hb dX9_countingAt_11 (by decide) ?_
  refine lv_istore (lv' := [(5, .int 0), (4, .ref a17), (2, .long 0), (0, .ref a0), (1, .int x0)]) hx hb dX9_countingAt_12 hl (by decide) rfl (fun ls hl => ?_)
  refine lv_iload hx hb dX9_countingAt_14 (lv_at hl 0 rfl) ?_
  refine lv_aload hx hb dX9_countingAt_16 (lv_at hl 1 rfl) ?_
  refine k_getN hC hN hK hP iX8 2 7 wf_X9_85 rfl (by decide) rfl rfl dX9_countingAt_18 ?_
  refine lv_icmp_ge (tgt := 52) hx hb dX9_countingAt_21 (by decide) (fun _ => ?_) (fun c_ => absurd (by decide +kernel) c_)
  refine lv_iconst (v := 0) hx hb dX9_countingAt_52 (by decide) ?_
  refine lv_istore (lv' := [(5, .int 0), (4, .ref a17), (2, .long 0), (0, .ref a0), (1, .int x0)]) hx hb dX9_countingAt_53 hl (by decide) rfl (fun ls hl => ?_)
  refine lv_iload hx hb dX9_countingAt_55 (lv_at hl 0 rfl) ?_
  refine lv_aload_n hx hb dX9_countingAt_57 rfl (lv_at hl 3 rfl) ?_
  refine k_get hC hK hP iX9 0 2 wf_X9_28 rfl (by decide) rfl rfl dX9_countingAt_58 ?_
  refine k_getN hC hN hK hP iX8 3 7 wf_X9_85 rfl (by decide) rfl rfl dX9_countingAt_61 ?_
  refine lv_icmp_ge (tgt := 113) hx hb dX9_countingAt_64 (by decide) (fun _ => ?_) (fun c_ => absurd (by decide +kernel) c_)
  refine lv_lload_n hx hb dX9_countingAt_113 rfl (lv_at hl 2 rfl) ?_
  exact k_lret hC hr hlk hK hP hD hS () [0, 1, 2, 3] rfl (by decide) rfl (Nat.le_of_ble_eq_true rfl) (Nat.le_of_ble_eq_true rfl) dX9_countingAt_114
theorem dX0_isOf_0 : decode cX0_isOf 0 = .ok (.aload_n 0, 1) := by decide +kernel
theorem dX0_isOf_1 : decode cX0_isOf 1 = .ok (.getfield 19, 3) := by decide +kernel
theorem dX0_isOf_4 : decode cX0_isOf 4 = .ok (.ifCond .eq 16, 3) := by decide +kernel
theorem dX0_isOf_20 : decode cX0_isOf 20 = .ok (.iconst 0, 1) := by decide +kernel
theorem dX0_isOf_21 : decode cX0_isOf 21 = .ok (.ireturn, 1) := by decide +kernel
set_option maxHeartbeats 4000000 in
set_option maxRecDepth 100000 in
theorem c51_X0_isOf (l : Launch) (G : va_G) (cI cJ cB cZ : ClassId) (a0 a1 : Nat) : Con l G (TY cI cJ cB cZ) yX0_isOf cX0_isOf 3 (some .boolean) ({ frames := 0, cells := 0, slots := 0, locals := 0 } : Room) [.ref a0, .long 0] [(a0, .inr (0, [.ref a1, .int 0, .int 0, .long 0, .int 0, .int 0, .long 0]))] (QI G (TY cI cJ cB cZ) (fun (r : Int32) (u : Unit) => r = 0) (fun u : Unit => [(a0, .inr (0, [.ref a1, .int 0, .int 0, .long 0, .int 0, .int 0, .long 0]))])) := by
  refine k_met (by decide) (Nat.le_of_ble_eq_true rfl) ?_
  intro p e s m below meth c A ls hC hr hlk hnm hN hK hA hP hD hS hl
  have hl : lv_has ls 3 [(0, .ref a0), (1, .long 0)] := hl
  obtain ⟨hx, hb, hml, hown, hts⟩ := id hC
  refine lv_aload_n hx hb dX0_isOf_0 rfl (lv_at hl 0 rfl) ?_
  refine k_get hC hK hP iX0 0 2 wf_X0_19 rfl (by decide) rfl rfl dX0_isOf_1 ?_
  refine lv_if_eq (tgt := 20) hx hb dX0_isOf_4 (by decide) (fun _ => ?_) (fun c_ => absurd (by decide +kernel) c_)
  refine lv_iconst (v := 0) hx hb dX0_isOf_20 (by decide) ?_
  exact k_zret hC hr hlk hK hP hD hS () [0] rfl (by decide) rfl rfl (Nat.le_of_ble_eq_true rfl) (Nat.le_of_ble_eq_true rfl) dX0_isOf_21
theorem dX0_restart_0 : decode cX0_restart 0 = .ok (.aload_n 0, 1) := by decide +kernel
theorem dX0_restart_1 : decode cX0_restart 1 = .ok (.iconst 1, 1) := by decide +kernel
theorem dX0_restart_2 : decode cX0_restart 2 = .ok (.putfield 19, 3) := by decide +kernel
theorem dX0_restart_5 : decode cX0_restart 5 = .ok (.aload_n 0, 1) := by decide +kernel
theorem dX0_restart_6 : decode cX0_restart 6 = .ok (.lload_n 1, 1) := by decide +kernel
theorem dX0_restart_7 : decode cX0_restart 7 = .ok (.putfield 23, 3) := by decide +kernel
theorem dX0_restart_10 : decode cX0_restart 10 = .ok (.aload_n 0, 1) := by decide +kernel
theorem dX0_restart_11 : decode cX0_restart 11 = .ok (.iconst 0, 1) := by decide +kernel
theorem dX0_restart_12 : decode cX0_restart 12 = .ok (.putfield 15, 3) := by decide +kernel
theorem dX0_restart_15 : decode cX0_restart 15 = .ok (.aload_n 0, 1) := by decide +kernel
theorem dX0_restart_16 : decode cX0_restart 16 = .ok (.dup, 1) := by decide +kernel
theorem dX0_restart_17 : decode cX0_restart 17 = .ok (.getfield 27, 3) := by decide +kernel
theorem dX0_restart_20 : decode cX0_restart 20 = .ok (.iconst 1, 1) := by decide +kernel
theorem dX0_restart_21 : decode cX0_restart 21 = .ok (.iadd, 1) := by decide +kernel
theorem dX0_restart_22 : decode cX0_restart 22 = .ok (.putfield 27, 3) := by decide +kernel
theorem dX0_restart_25 : decode cX0_restart 25 = .ok (.aload_n 0, 1) := by decide +kernel
theorem dX0_restart_26 : decode cX0_restart 26 = .ok (.iconst 0, 1) := by decide +kernel
theorem dX0_restart_27 : decode cX0_restart 27 = .ok (.putfield 30, 3) := by decide +kernel
theorem dX0_restart_30 : decode cX0_restart 30 = .ok (.return_, 1) := by decide +kernel
set_option maxHeartbeats 4000000 in
set_option maxRecDepth 100000 in
theorem c52_X0_restart (l : Launch) (G : va_G) (cI cJ cB cZ : ClassId) (a0 a1 : Nat) : Con l G (TY cI cJ cB cZ) yX0_restart cX0_restart 3 none ({ frames := 0, cells := 0, slots := 0, locals := 0 } : Room) [.ref a0, .long 0] [(a0, .inr (0, [.ref a1, .int 0, .int 0, .long 0, .int 0, .int 0, .long 0]))] (QV G (TY cI cJ cB cZ) (fun u : Unit => True) (fun u : Unit => [(a0, .inr (0, [.ref a1, .int 0, .int 1, .long 0, .int 1, .int 0, .long 0]))])) := by
  refine k_met (by decide) (Nat.le_of_ble_eq_true rfl) ?_
  intro p e s m below meth c A ls hC hr hlk hnm hN hK hA hP hD hS hl
  have hl : lv_has ls 3 [(0, .ref a0), (1, .long 0)] := hl
  obtain ⟨hx, hb, hml, hown, hts⟩ := id hC
  refine lv_aload_n hx hb dX0_restart_0 rfl (lv_at hl 0 rfl) ?_
  refine lv_iconst (v := 1) hx hb dX0_restart_1 (by decide) ?_
  refine k_put hC hK hP hD hS iX0 tyX0_ok nmX0 0 2 wf_X0_19 rfl (by decide) rfl rfl rfl rfl (Nat.le_of_ble_eq_true rfl) dX0_restart_2 (fun H locs hP hD hS => ?_)
  have hP : va_P G cl [(a0, .inr (0, [.ref a1, .int 0, .int 1, .long 0, .int 0, .int 0, .long 0]))] H := hP
  have hD : va_D A [(a0, .inr (0, [.ref a1, .int 0, .int 1, .long 0, .int 0, .int 0, .long 0]))] := hD
  refine lv_aload_n hx hb dX0_restart_5 rfl (lv_at hl 0 rfl) ?_
  refine lv_lload_n hx hb dX0_restart_6 rfl (lv_at hl 1 rfl) ?_
  refine k_put hC hK hP hD hS iX0 tyX0_ok nmX0 0 3 wf_X0_23 rfl (by decide) rfl rfl rfl rfl (Nat.le_of_ble_eq_true rfl) dX0_restart_7 (fun H locs hP hD hS => ?_)
  have hP : va_P G cl [(a0, .inr (0, [.ref a1, .int 0, .int 1, .long 0, .int 0, .int 0, .long 0]))] H := hP
  have hD : va_D A [(a0, .inr (0, [.ref a1, .int 0, .int 1, .long 0, .int 0, .int 0, .long 0]))] := hD
  refine lv_aload_n hx hb dX0_restart_10 rfl (lv_at hl 0 rfl) ?_
  refine lv_iconst (v := 0) hx hb dX0_restart_11 (by decide) ?_
  refine k_put hC hK hP hD hS iX0 tyX0_ok nmX0 0 1 wf_X0_15 rfl (by decide) rfl rfl rfl rfl (Nat.le_of_ble_eq_true rfl) dX0_restart_12 (fun H locs hP hD hS => ?_)
  have hP : va_P G cl [(a0, .inr (0, [.ref a1, .int 0, .int 1, .long 0, .int 0, .int 0, .long 0]))] H := hP
  have hD : va_D A [(a0, .inr (0, [.ref a1, .int 0, .int 1, .long 0, .int 0, .int 0, .long 0]))] := hD
  refine lv_aload_n hx hb dX0_restart_15 rfl (lv_at hl 0 rfl) ?_
  refine lv_dup hx hb dX0_restart_16 rfl ?_
  refine k_get hC hK hP iX0 0 4 wf_X0_27 rfl (by decide) rfl rfl dX0_restart_17 ?_
  refine lv_iconst (v := 1) hx hb dX0_restart_20 (by decide) ?_
  refine lv_iadd hx hb dX0_restart_21 ?_
  refine k_i 1 (by decide +kernel) ?_
  refine k_put hC hK hP hD hS iX0 tyX0_ok nmX0 0 4 wf_X0_27 rfl (by decide) rfl rfl rfl rfl (Nat.le_of_ble_eq_true rfl) dX0_restart_22 (fun H locs hP hD hS => ?_)
  have hP : va_P G cl [(a0, .inr (0, [.ref a1, .int 0, .int 1, .long 0, .int 1, .int 0, .long 0]))] H := hP
  have hD : va_D A [(a0, .inr (0, [.ref a1, .int 0, .int 1, .long 0, .int 1, .int 0, .long 0]))] := hD
  refine lv_aload_n hx hb dX0_restart_25 rfl (lv_at hl 0 rfl) ?_
  refine lv_iconst (v := 0) hx hb dX0_restart_26 (by decide) ?_
  refine k_put hC hK hP hD hS iX0 tyX0_ok nmX0 0 5 wf_X0_30 rfl (by decide) rfl rfl rfl rfl (Nat.le_of_ble_eq_true rfl) dX0_restart_27 (fun H locs hP hD hS => ?_)
  have hP : va_P G cl [(a0, .inr (0, [.ref a1, .int 0, .int 1, .long 0, .int 1, .int 0, .long 0]))] H := hP
  have hD : va_D A [(a0, .inr (0, [.ref a1, .int 0, .int 1, .long 0, .int 1, .int 0, .long 0]))] := hD
  exact k_vret hC hr hlk hK hP hD hS () [0] rfl (by decide) trivial (Nat.le_of_ble_eq_true rfl) (Nat.le_of_ble_eq_true rfl) dX0_restart_30
theorem dX4_gatherFrom_0 : decode cX4_gatherFrom 0 = .ok (.iconst 0, 1) := by decide +kernel
theorem dX4_gatherFrom_1 : decode cX4_gatherFrom 1 = .ok (.istore 5, 2) := by decide +kernel
theorem dX4_gatherFrom_3 : decode cX4_gatherFrom 3 = .ok (.iload 5, 2) := by decide +kernel
theorem dX4_gatherFrom_5 : decode cX4_gatherFrom 5 = .ok (.aload_n 1, 1) := by decide +kernel
theorem dX4_gatherFrom_6 : decode cX4_gatherFrom 6 = .ok (.getfield 60, 3) := by decide +kernel
set_option maxRecDepth 100000 in
theorem wf_X4_60 : Cond.fieldLinkNest RX4 60 "StoneTrust$Weighings" "size" "I" "StoneTrust" ∈ nests := nm_ (List.mem_of_getElem? (i := 164) (by decide +kernel)) rfl
theorem dX4_gatherFrom_9 : decode cX4_gatherFrom 9 = .ok (.if_icmp .ge 41, 3) := by decide +kernel
theorem dX4_gatherFrom_50 : decode cX4_gatherFrom 50 = .ok (.return_, 1) := by decide +kernel
set_option maxHeartbeats 4000000 in
set_option maxRecDepth 100000 in
theorem c53_X4_gatherFrom (l : Launch) (G : va_G) (cI cJ cB cZ : ClassId) (a0 a1 a2 a3 a4 a5 a6 a7 a8 : Nat) : Con l G (TY cI cJ cB cZ) yX4_gatherFrom cX4_gatherFrom 6 none ({ frames := 0, cells := 0, slots := 0, locals := 0 } : Room) [.ref a0, .ref a1, .long 0, .int 0] [(a1, .inr (8, [.ref a2, .ref a3, .ref a4, .ref a5, .ref a6, .ref a7, .ref a8, .int 0]))] (QV G (TY cI cJ cB cZ) (fun u : Unit => True) (fun u : Unit => [(a1, .inr (8, [.ref a2, .ref a3, .ref a4, .ref a5, .ref a6, .ref a7, .ref a8, .int 0]))])) := by
  refine k_met (by decide) (Nat.le_of_ble_eq_true rfl) ?_
  intro p e s m below meth c A ls hC hr hlk hnm hN hK hA hP hD hS hl
  have hl : lv_has ls 6 [(0, .ref a0), (1, .ref a1), (2, .long 0), (4, .int 0)] := hl
  obtain ⟨hx, hb, hml, hown, hts⟩ := id hC
  refine lv_iconst (v := 0) hx hb dX4_gatherFrom_0 (by decide) ?_
  refine lv_istore (lv' := [(5, .int 0), (0, .ref a0), (1, .ref a1), (2, .long 0), (4, .int 0)]) hx hb dX4_gatherFrom_1 hl (by decide) rfl (fun ls hl => ?_)
  refine lv_iload hx hb dX4_gatherFrom_3 (lv_at hl 0 rfl) ?_
  refine lv_aload_n hx hb dX4_gatherFrom_5 rfl (lv_at hl 2 rfl) ?_
  refine k_getN hC hN hK hP iX8 0 7 wf_X4_60 rfl (by decide) rfl rfl dX4_gatherFrom_6 ?_
  refine lv_icmp_ge (tgt := 50) hx hb dX4_gatherFrom_9 (by decide) (fun _ => ?_) (fun c_ => absurd (by decide +kernel) c_)
  exact k_vret hC hr hlk hK hP hD hS () [0] rfl (by decide) trivial (Nat.le_of_ble_eq_true rfl) (Nat.le_of_ble_eq_true rfl) dX4_gatherFrom_50
set_option maxHeartbeats 4000000 in
set_option maxRecDepth 100000 in
theorem c54_X4_gatherFrom (l : Launch) (G : va_G) (cI cJ cB cZ : ClassId) (a0 a1 a2 a3 a4 a5 a6 a7 a8 : Nat) : Con l G (TY cI cJ cB cZ) yX4_gatherFrom cX4_gatherFrom 6 none ({ frames := 0, cells := 0, slots := 0, locals := 0 } : Room) [.ref a0, .ref a1, .long 0, .int 1] [(a1, .inr (8, [.ref a2, .ref a3, .ref a4, .ref a5, .ref a6, .ref a7, .ref a8, .int 0]))] (QV G (TY cI cJ cB cZ) (fun u : Unit => True) (fun u : Unit => [(a1, .inr (8, [.ref a2, .ref a3, .ref a4, .ref a5, .ref a6, .ref a7, .ref a8, .int 0]))])) := by
  refine k_met (by decide) (Nat.le_of_ble_eq_true rfl) ?_
  intro p e s m below meth c A ls hC hr hlk hnm hN hK hA hP hD hS hl
  have hl : lv_has ls 6 [(0, .ref a0), (1, .ref a1), (2, .long 0), (4, .int 1)] := hl
  obtain ⟨hx, hb, hml, hown, hts⟩ := id hC
  refine lv_iconst (v := 0) hx hb dX4_gatherFrom_0 (by decide) ?_
  refine lv_istore (lv' := [(5, .int 0), (0, .ref a0), (1, .ref a1), (2, .long 0), (4, .int 1)]) hx hb dX4_gatherFrom_1 hl (by decide) rfl (fun ls hl => ?_)
  refine lv_iload hx hb dX4_gatherFrom_3 (lv_at hl 0 rfl) ?_
  refine lv_aload_n hx hb dX4_gatherFrom_5 rfl (lv_at hl 2 rfl) ?_
  refine k_getN hC hN hK hP iX8 0 7 wf_X4_60 rfl (by decide) rfl rfl dX4_gatherFrom_6 ?_
  refine lv_icmp_ge (tgt := 50) hx hb dX4_gatherFrom_9 (by decide) (fun _ => ?_) (fun c_ => absurd (by decide +kernel) c_)
  exact k_vret hC hr hlk hK hP hD hS () [0] rfl (by decide) trivial (Nat.le_of_ble_eq_true rfl) (Nat.le_of_ble_eq_true rfl) dX4_gatherFrom_50
set_option maxHeartbeats 4000000 in
set_option maxRecDepth 100000 in
theorem c55_X4_gatherFrom (l : Launch) (G : va_G) (cI cJ cB cZ : ClassId) (a0 a1 a2 a3 a4 a5 a6 a7 a8 : Nat) : Con l G (TY cI cJ cB cZ) yX4_gatherFrom cX4_gatherFrom 6 none ({ frames := 0, cells := 0, slots := 0, locals := 0 } : Room) [.ref a0, .ref a1, .long 0, .int 2] [(a1, .inr (8, [.ref a2, .ref a3, .ref a4, .ref a5, .ref a6, .ref a7, .ref a8, .int 0]))] (QV G (TY cI cJ cB cZ) (fun u : Unit => True) (fun u : Unit => [(a1, .inr (8, [.ref a2, .ref a3, .ref a4, .ref a5, .ref a6, .ref a7, .ref a8, .int 0]))])) := by
  refine k_met (by decide) (Nat.le_of_ble_eq_true rfl) ?_
  intro p e s m below meth c A ls hC hr hlk hnm hN hK hA hP hD hS hl
  have hl : lv_has ls 6 [(0, .ref a0), (1, .ref a1), (2, .long 0), (4, .int 2)] := hl
  obtain ⟨hx, hb, hml, hown, hts⟩ := id hC
  refine lv_iconst (v := 0) hx hb dX4_gatherFrom_0 (by decide) ?_
  refine lv_istore (lv' := [(5, .int 0), (0, .ref a0), (1, .ref a1), (2, .long 0), (4, .int 2)]) hx hb dX4_gatherFrom_1 hl (by decide) rfl (fun ls hl => ?_)
  refine lv_iload hx hb dX4_gatherFrom_3 (lv_at hl 0 rfl) ?_
  refine lv_aload_n hx hb dX4_gatherFrom_5 rfl (lv_at hl 2 rfl) ?_
  refine k_getN hC hN hK hP iX8 0 7 wf_X4_60 rfl (by decide) rfl rfl dX4_gatherFrom_6 ?_
  refine lv_icmp_ge (tgt := 50) hx hb dX4_gatherFrom_9 (by decide) (fun _ => ?_) (fun c_ => absurd (by decide +kernel) c_)
  exact k_vret hC hr hlk hK hP hD hS () [0] rfl (by decide) trivial (Nat.le_of_ble_eq_true rfl) (Nat.le_of_ble_eq_true rfl) dX4_gatherFrom_50
set_option maxHeartbeats 4000000 in
set_option maxRecDepth 100000 in
theorem c56_X4_gatherFrom (l : Launch) (G : va_G) (cI cJ cB cZ : ClassId) (a0 a1 a2 a3 a4 a5 a6 a7 a8 : Nat) : Con l G (TY cI cJ cB cZ) yX4_gatherFrom cX4_gatherFrom 6 none ({ frames := 0, cells := 0, slots := 0, locals := 0 } : Room) [.ref a0, .ref a1, .long 0, .int 3] [(a1, .inr (8, [.ref a2, .ref a3, .ref a4, .ref a5, .ref a6, .ref a7, .ref a8, .int 0]))] (QV G (TY cI cJ cB cZ) (fun u : Unit => True) (fun u : Unit => [(a1, .inr (8, [.ref a2, .ref a3, .ref a4, .ref a5, .ref a6, .ref a7, .ref a8, .int 0]))])) := by
  refine k_met (by decide) (Nat.le_of_ble_eq_true rfl) ?_
  intro p e s m below meth c A ls hC hr hlk hnm hN hK hA hP hD hS hl
  have hl : lv_has ls 6 [(0, .ref a0), (1, .ref a1), (2, .long 0), (4, .int 3)] := hl
  obtain ⟨hx, hb, hml, hown, hts⟩ := id hC
  refine lv_iconst (v := 0) hx hb dX4_gatherFrom_0 (by decide) ?_
  refine lv_istore (lv' := [(5, .int 0), (0, .ref a0), (1, .ref a1), (2, .long 0), (4, .int 3)]) hx hb dX4_gatherFrom_1 hl (by decide) rfl (fun ls hl => ?_)
  refine lv_iload hx hb dX4_gatherFrom_3 (lv_at hl 0 rfl) ?_
  refine lv_aload_n hx hb dX4_gatherFrom_5 rfl (lv_at hl 2 rfl) ?_
  refine k_getN hC hN hK hP iX8 0 7 wf_X4_60 rfl (by decide) rfl rfl dX4_gatherFrom_6 ?_
  refine lv_icmp_ge (tgt := 50) hx hb dX4_gatherFrom_9 (by decide) (fun _ => ?_) (fun c_ => absurd (by decide +kernel) c_)
  exact k_vret hC hr hlk hK hP hD hS () [0] rfl (by decide) trivial (Nat.le_of_ble_eq_true rfl) (Nat.le_of_ble_eq_true rfl) dX4_gatherFrom_50
set_option maxHeartbeats 4000000 in
set_option maxRecDepth 100000 in
theorem c57_X4_gatherFrom (l : Launch) (G : va_G) (cI cJ cB cZ : ClassId) (a0 a1 a2 a3 a4 a5 a6 a7 a8 : Nat) : Con l G (TY cI cJ cB cZ) yX4_gatherFrom cX4_gatherFrom 6 none ({ frames := 0, cells := 0, slots := 0, locals := 0 } : Room) [.ref a0, .ref a1, .long 0, .int 4] [(a1, .inr (8, [.ref a2, .ref a3, .ref a4, .ref a5, .ref a6, .ref a7, .ref a8, .int 0]))] (QV G (TY cI cJ cB cZ) (fun u : Unit => True) (fun u : Unit => [(a1, .inr (8, [.ref a2, .ref a3, .ref a4, .ref a5, .ref a6, .ref a7, .ref a8, .int 0]))])) := by
  refine k_met (by decide) (Nat.le_of_ble_eq_true rfl) ?_
  intro p e s m below meth c A ls hC hr hlk hnm hN hK hA hP hD hS hl
  have hl : lv_has ls 6 [(0, .ref a0), (1, .ref a1), (2, .long 0), (4, .int 4)] := hl
  obtain ⟨hx, hb, hml, hown, hts⟩ := id hC
  refine lv_iconst (v := 0) hx hb dX4_gatherFrom_0 (by decide) ?_
  refine lv_istore (lv' := [(5, .int 0), (0, .ref a0), (1, .ref a1), (2, .long 0), (4, .int 4)]) hx hb dX4_gatherFrom_1 hl (by decide) rfl (fun ls hl => ?_)
  refine lv_iload hx hb dX4_gatherFrom_3 (lv_at hl 0 rfl) ?_
  refine lv_aload_n hx hb dX4_gatherFrom_5 rfl (lv_at hl 2 rfl) ?_
  refine k_getN hC hN hK hP iX8 0 7 wf_X4_60 rfl (by decide) rfl rfl dX4_gatherFrom_6 ?_
  refine lv_icmp_ge (tgt := 50) hx hb dX4_gatherFrom_9 (by decide) (fun _ => ?_) (fun c_ => absurd (by decide +kernel) c_)
  exact k_vret hC hr hlk hK hP hD hS () [0] rfl (by decide) trivial (Nat.le_of_ble_eq_true rfl) (Nat.le_of_ble_eq_true rfl) dX4_gatherFrom_50
set_option maxHeartbeats 4000000 in
set_option maxRecDepth 100000 in
theorem c58_X4_gatherFrom (l : Launch) (G : va_G) (cI cJ cB cZ : ClassId) (a0 a1 a2 a3 a4 a5 a6 a7 a8 : Nat) : Con l G (TY cI cJ cB cZ) yX4_gatherFrom cX4_gatherFrom 6 none ({ frames := 0, cells := 0, slots := 0, locals := 0 } : Room) [.ref a0, .ref a1, .long 0, .int 5] [(a1, .inr (8, [.ref a2, .ref a3, .ref a4, .ref a5, .ref a6, .ref a7, .ref a8, .int 0]))] (QV G (TY cI cJ cB cZ) (fun u : Unit => True) (fun u : Unit => [(a1, .inr (8, [.ref a2, .ref a3, .ref a4, .ref a5, .ref a6, .ref a7, .ref a8, .int 0]))])) := by
  refine k_met (by decide) (Nat.le_of_ble_eq_true rfl) ?_
  intro p e s m below meth c A ls hC hr hlk hnm hN hK hA hP hD hS hl
  have hl : lv_has ls 6 [(0, .ref a0), (1, .ref a1), (2, .long 0), (4, .int 5)] := hl
  obtain ⟨hx, hb, hml, hown, hts⟩ := id hC
  refine lv_iconst (v := 0) hx hb dX4_gatherFrom_0 (by decide) ?_
  refine lv_istore (lv' := [(5, .int 0), (0, .ref a0), (1, .ref a1), (2, .long 0), (4, .int 5)]) hx hb dX4_gatherFrom_1 hl (by decide) rfl (fun ls hl => ?_)
  refine lv_iload hx hb dX4_gatherFrom_3 (lv_at hl 0 rfl) ?_
  refine lv_aload_n hx hb dX4_gatherFrom_5 rfl (lv_at hl 2 rfl) ?_
  refine k_getN hC hN hK hP iX8 0 7 wf_X4_60 rfl (by decide) rfl rfl dX4_gatherFrom_6 ?_
  refine lv_icmp_ge (tgt := 50) hx hb dX4_gatherFrom_9 (by decide) (fun _ => ?_) (fun c_ => absurd (by decide +kernel) c_)
  exact k_vret hC hr hlk hK hP hD hS () [0] rfl (by decide) trivial (Nat.le_of_ble_eq_true rfl) (Nat.le_of_ble_eq_true rfl) dX4_gatherFrom_50
theorem dX4_gather_0 : decode cX4_gather 0 = .ok (.aload_n 0, 1) := by decide +kernel
theorem dX4_gather_1 : decode cX4_gather 1 = .ok (.aload_n 1, 1) := by decide +kernel
theorem dX4_gather_2 : decode cX4_gather 2 = .ok (.putfield 12, 3) := by decide +kernel
theorem dX4_gather_5 : decode cX4_gather 5 = .ok (.aload_n 0, 1) := by decide +kernel
theorem dX4_gather_6 : decode cX4_gather 6 = .ok (.getfield 30, 3) := by decide +kernel
theorem dX4_gather_9 : decode cX4_gather 9 = .ok (.iconst 0, 1) := by decide +kernel
theorem dX4_gather_10 : decode cX4_gather 10 = .ok (.putfield 60, 3) := by decide +kernel
theorem dX4_gather_13 : decode cX4_gather 13 = .ok (.iconst 0, 1) := by decide +kernel
theorem dX4_gather_14 : decode cX4_gather 14 = .ok (.istore 5, 2) := by decide +kernel
theorem dX4_gather_16 : decode cX4_gather 16 = .ok (.iload 5, 2) := by decide +kernel
theorem dX4_gather_18 : decode cX4_gather 18 = .ok (.bipush 6, 2) := by decide +kernel
theorem dX4_gather_20 : decode cX4_gather 20 = .ok (.if_icmp .ge 45, 3) := by decide +kernel
theorem dX4_gather_23 : decode cX4_gather 23 = .ok (.aload_n 0, 1) := by decide +kernel
theorem dX4_gather_24 : decode cX4_gather 24 = .ok (.getfield 34, 3) := by decide +kernel
theorem dX4_gather_27 : decode cX4_gather 27 = .ok (.iload 5, 2) := by decide +kernel
theorem dX4_gather_29 : decode cX4_gather 29 = .ok (.aload_n 0, 1) := by decide +kernel
theorem dX4_gather_30 : decode cX4_gather 30 = .ok (.getfield 30, 3) := by decide +kernel
theorem dX4_gather_33 : decode cX4_gather 33 = .ok (.getfield 60, 3) := by decide +kernel
theorem dX4_gather_36 : decode cX4_gather 36 = .ok (.iastore, 1) := by decide +kernel
theorem dX4_gather_37 : decode cX4_gather 37 = .ok (.aload_n 0, 1) := by decide +kernel
theorem dX4_gather_38 : decode cX4_gather 38 = .ok (.aload_n 1, 1) := by decide +kernel
theorem dX4_gather_39 : decode cX4_gather 39 = .ok (.getfield 63, 3) := by decide +kernel
set_option maxRecDepth 100000 in
theorem wf_X4_63 : Cond.fieldLinkNest RX4 63 "StoneTrust$Village" "weighings" "LStoneTrust$Weighings;" "StoneTrust" ∈ nests := nm_ (List.mem_of_getElem? (i := 260) (by decide +kernel)) rfl
theorem dX4_gather_42 : decode cX4_gather 42 = .ok (.lload_n 3, 1) := by decide +kernel
theorem dX4_gather_43 : decode cX4_gather 43 = .ok (.iload 5, 2) := by decide +kernel
theorem dX4_gather_45 : decode cX4_gather 45 = .ok (.invokevirtual 66, 3) := by decide +kernel
set_option maxRecDepth 100000 in
theorem wm_X4_66 : Cond.methodLink RX4 66 yX4_gatherFrom ∈ gw := gm (List.mem_of_getElem? (i := 815) (by decide +kernel)) rfl
set_option maxRecDepth 100000 in
theorem mi_X4_gatherFrom : MI yX4_gatherFrom cX4_gatherFrom 6 none 3 := ⟨gm (List.mem_of_getElem? (i := 818) rfl) rfl, gm (List.mem_of_getElem? (i := 120) (by decide +kernel)) rfl, by decide, by decide, by decide +kernel⟩
set_option maxRecDepth 100000 in
theorem in_X4_gatherFrom : Cond.instanceMethod yX4_gatherFrom ∈ gw := gm (List.mem_of_getElem? (i := 817) (by decide +kernel)) rfl
set_option maxRecDepth 100000 in
theorem se_X4_gatherFrom : Cond.selects yX4_gatherFrom.cls yX4_gatherFrom yX4_gatherFrom ∈ gw := gm (List.mem_of_getElem? (i := 24) (by decide +kernel)) rfl
theorem dX4_gather_48 : decode cX4_gather 48 = .ok (.aload_n 0, 1) := by decide +kernel
theorem dX4_gather_49 : decode cX4_gather 49 = .ok (.aload_n 2, 1) := by decide +kernel
theorem dX4_gather_50 : decode cX4_gather 50 = .ok (.lload_n 3, 1) := by decide +kernel
theorem dX4_gather_51 : decode cX4_gather 51 = .ok (.bipush 16, 2) := by decide +kernel
theorem dX4_gather_53 : decode cX4_gather 53 = .ok (.lshr, 1) := by decide +kernel
theorem dX4_gather_54 : decode cX4_gather 54 = .ok (.iload 5, 2) := by decide +kernel
theorem dX4_gather_56 : decode cX4_gather 56 = .ok (.invokevirtual 66, 3) := by decide +kernel
theorem dX4_gather_59 : decode cX4_gather 59 = .ok (.iinc 5 1, 3) := by decide +kernel
theorem dX4_gather_62 : decode cX4_gather 62 = .ok (.goto (-46), 3) := by decide +kernel
theorem dX4_gather_65 : decode cX4_gather 65 = .ok (.aload_n 0, 1) := by decide +kernel
theorem dX4_gather_66 : decode cX4_gather 66 = .ok (.getfield 34, 3) := by decide +kernel
theorem dX4_gather_69 : decode cX4_gather 69 = .ok (.bipush 6, 2) := by decide +kernel
theorem dX4_gather_71 : decode cX4_gather 71 = .ok (.aload_n 0, 1) := by decide +kernel
theorem dX4_gather_72 : decode cX4_gather 72 = .ok (.getfield 30, 3) := by decide +kernel
theorem dX4_gather_75 : decode cX4_gather 75 = .ok (.getfield 60, 3) := by decide +kernel
theorem dX4_gather_78 : decode cX4_gather 78 = .ok (.iastore, 1) := by decide +kernel
theorem dX4_gather_79 : decode cX4_gather 79 = .ok (.return_, 1) := by decide +kernel
set_option maxHeartbeats 4000000 in
set_option maxRecDepth 100000 in
theorem c59_X4_gather (l : Launch) (G : va_G) (cI cJ cB cZ : ClassId) (a0 a1 a2 a3 a4 a5 a6 a7 a8 a9 a10 a11 a12 a13 a14 a15 a16 a17 a18 a19 a20 a21 a22 a23 a24 a25 a26 a27 a28 a29 a30 a31 a32 a33 a34 a35 a36 a37 a38 a39 a40 a41 : Nat) : Con l G (TY cI cJ cB cZ) yX4_gather cX4_gather 6 none ({ frames := 1, cells := 0, slots := 0, locals := 25 } : Room) [.ref a0, .ref a1, .ref a2, .long 0] [(a0, .inr (4, [.ref a3, .ref a4, .ref a5, .ref a6, .ref a7, .ref a8, .ref a9, .int 100, .int 0, .int 0, .int (-1)])), (a5, .inr (8, [.ref a10, .ref a11, .ref a12, .ref a13, .ref a14, .ref a15, .ref a16, .int 0])), (a6, .inl (cI, 7, .inl (fun _ => 0))), (a1, .inr (7, [.int 100, .int 100, .int 0, .ref a17, .ref a18, .int 0, .ref a19, .ref a20, .ref a21, .ref a22, .ref a23, .ref a24, .ref a25, .ref a26, .ref a27])), (a26, .inr (8, [.ref a28, .ref a29, .ref a30, .ref a31, .ref a32, .ref a33, .ref a34, .int 0])), (a2, .inr (8, [.ref a35, .ref a36, .ref a37, .ref a38, .ref a39, .ref a40, .ref a41, .int 0]))] (QV G (TY cI cJ cB cZ) (fun u : Unit => True) (fun u : Unit => [(a0, .inr (4, [.ref a1, .ref a4, .ref a5, .ref a6, .ref a7, .ref a8, .ref a9, .int 100, .int 0, .int 0, .int (-1)])), (a5, .inr (8, [.ref a10, .ref a11, .ref a12, .ref a13, .ref a14, .ref a15, .ref a16, .int 0])), (a6, .inl (cI, 7, .inl (fun _ => 0))), (a1, .inr (7, [.int 100, .int 100, .int 0, .ref a17, .ref a18, .int 0, .ref a19, .ref a20, .ref a21, .ref a22, .ref a23, .ref a24, .ref a25, .ref a26, .ref a27])), (a26, .inr (8, [.ref a28, .ref a29, .ref a30, .ref a31, .ref a32, .ref a33, .ref a34, .int 0])), (a2, .inr (8, [.ref a35, .ref a36, .ref a37, .ref a38, .ref a39, .ref a40, .ref a41, .int 0]))])) := by
  refine k_met (by decide) (Nat.le_of_ble_eq_true rfl) ?_
  intro p e s m below meth c A ls hC hr hlk hnm hN hK hA hP hD hS hl
  have hl : lv_has ls 6 [(0, .ref a0), (1, .ref a1), (2, .ref a2), (3, .long 0)] := hl
  obtain ⟨hx, hb, hml, hown, hts⟩ := id hC
  refine lv_aload_n hx hb dX4_gather_0 rfl (lv_at hl 0 rfl) ?_
  refine lv_aload_n hx hb dX4_gather_1 rfl (lv_at hl 1 rfl) ?_
  refine k_put hC hK hP hD hS iX4 tyX4_ok nmX4 0 0 wf_X4_12 rfl (by decide) rfl rfl rfl rfl (Nat.le_of_ble_eq_true rfl) dX4_gather_2 (fun H locs hP hD hS => ?_)
  have hP : va_P G cl [(a0, .inr (4, [.ref a1, .ref a4, .ref a5, .ref a6, .ref a7, .ref a8, .ref a9, .int 100, .int 0, .int 0, .int (-1)])), (a5, .inr (8, [.ref a10, .ref a11, .ref a12, .ref a13, .ref a14, .ref a15, .ref a16, .int 0])), (a6, .inl (cI, 7, .inl (fun _ => 0))), (a1, .inr (7, [.int 100, .int 100, .int 0, .ref a17, .ref a18, .int 0, .ref a19, .ref a20, .ref a21, .ref a22, .ref a23, .ref a24, .ref a25, .ref a26, .ref a27])), (a26, .inr (8, [.ref a28, .ref a29, .ref a30, .ref a31, .ref a32, .ref a33, .ref a34, .int 0])), (a2, .inr (8, [.ref a35, .ref a36, .ref a37, .ref a38, .ref a39, .ref a40, .ref a41, .int 0]))] H := hP
  have hD : va_D A [(a0, .inr (4, [.ref a1, .ref a4, .ref a5, .ref a6, .ref a7, .ref a8, .ref a9, .int 100, .int 0, .int 0, .int (-1)])), (a5, .inr (8, [.ref a10, .ref a11, .ref a12, .ref a13, .ref a14, .ref a15, .ref a16, .int 0])), (a6, .inl (cI, 7, .inl (fun _ => 0))), (a1, .inr (7, [.int 100, .int 100, .int 0, .ref a17, .ref a18, .int 0, .ref a19, .ref a20, .ref a21, .ref a22, .ref a23, .ref a24, .ref a25, .ref a26, .ref a27])), (a26, .inr (8, [.ref a28, .ref a29, .ref a30, .ref a31, .ref a32, .ref a33, .ref a34, .int 0])), (a2, .inr (8, [.ref a35, .ref a36, .ref a37, .ref a38, .ref a39, .ref a40, .ref a41, .int 0]))] := hD
  refine lv_aload_n hx hb dX4_gather_5 rfl (lv_at hl 0 rfl) ?_
  refine k_get hC hK hP iX4 0 2 wf_X4_30 rfl (by decide) rfl rfl dX4_gather_6 ?_
  refine lv_iconst (v := 0) hx hb dX4_gather_9 (by decide) ?_
  refine k_putN hC hN hK hP hD hS iX8 tyX8_ok nmX8 1 7 wf_X4_60 rfl (by decide) rfl rfl rfl rfl (Nat.le_of_ble_eq_true rfl) dX4_gather_10 (fun H locs hP hD hS => ?_)
  have hP : va_P G cl [(a0, .inr (4, [.ref a1, .ref a4, .ref a5, .ref a6, .ref a7, .ref a8, .ref a9, .int 100, .int 0, .int 0, .int (-1)])), (a5, .inr (8, [.ref a10, .ref a11, .ref a12, .ref a13, .ref a14, .ref a15, .ref a16, .int 0])), (a6, .inl (cI, 7, .inl (fun _ => 0))), (a1, .inr (7, [.int 100, .int 100, .int 0, .ref a17, .ref a18, .int 0, .ref a19, .ref a20, .ref a21, .ref a22, .ref a23, .ref a24, .ref a25, .ref a26, .ref a27])), (a26, .inr (8, [.ref a28, .ref a29, .ref a30, .ref a31, .ref a32, .ref a33, .ref a34, .int 0])), (a2, .inr (8, [.ref a35, .ref a36, .ref a37, .ref a38, .ref a39, .ref a40, .ref a41, .int 0]))] H := hP
  have hD : va_D A [(a0, .inr (4, [.ref a1, .ref a4, .ref a5, .ref a6, .ref a7, .ref a8, .ref a9, .int 100, .int 0, .int 0, .int (-1)])), (a5, .inr (8, [.ref a10, .ref a11, .ref a12, .ref a13, .ref a14, .ref a15, .ref a16, .int 0])), (a6, .inl (cI, 7, .inl (fun _ => 0))), (a1, .inr (7, [.int 100, .int 100, .int 0, .ref a17, .ref a18, .int 0, .ref a19, .ref a20, .ref a21, .ref a22, .ref a23, .ref a24, .ref a25, .ref a26, .ref a27])), (a26, .inr (8, [.ref a28, .ref a29, .ref a30, .ref a31, .ref a32, .ref a33, .ref a34, .int 0])), (a2, .inr (8, [.ref a35, .ref a36, .ref a37, .ref a38, .ref a39, .ref a40, .ref a41, .int 0]))] := hD
  refine lv_iconst (v := 0) hx hb dX4_gather_13 (by decide) ?_
  refine lv_istore (lv' := [(5, .int 0), (0, .ref a0), (1, .ref a1), (2, .ref a2), (3, .long 0)]) hx hb dX4_gather_14 hl (by decide) rfl (fun ls hl => ?_)
  refine lv_iload hx hb dX4_gather_16 (lv_at hl 0 rfl) ?_
  refine lv_bipush (v := 6) hx hb dX4_gather_18 (by decide) ?_
  refine lv_icmp_ge (tgt := 65) hx hb dX4_gather_20 (by decide) (fun c_ => absurd c_ (by decide +kernel)) (fun _ => ?_)
  refine lv_aload_n hx hb dX4_gather_23 rfl (lv_at hl 1 rfl) ?_
  refine k_get hC hK hP iX4 0 3 wf_X4_34 rfl (by decide) rfl rfl dX4_gather_24 ?_
  refine lv_iload hx hb dX4_gather_27 (lv_at hl 0 rfl) ?_
  refine lv_aload_n hx hb dX4_gather_29 rfl (lv_at hl 1 rfl) ?_
  refine k_get hC hK hP iX4 0 2 wf_X4_30 rfl (by decide) rfl rfl dX4_gather_30 ?_
  refine k_getN hC hN hK hP iX8 1 7 wf_X4_60 rfl (by decide) rfl rfl dX4_gather_33 ?_
  refine k_iastS hC hK hP hD hS 2 0 rfl (by decide +kernel) (by decide) (by decide +kernel) dX4_gather_36 (fun H locs hP hD hS => ?_)
  refine lv_aload_n hx hb dX4_gather_37 rfl (lv_at hl 1 rfl) ?_
  refine lv_aload_n hx hb dX4_gather_38 rfl (lv_at hl 2 rfl) ?_
  refine k_getN hC hN hK hP iX7 3 13 wf_X4_63 rfl (by decide) rfl rfl dX4_gather_39 ?_
  refine lv_lload_n hx hb dX4_gather_42 rfl (lv_at hl 4 rfl) ?_
  refine lv_iload hx hb dX4_gather_43 (lv_at hl 0 rfl) ?_
  refine k_cv (wr := [(a0, .inr (4, [.ref a1, .ref a4, .ref a5, .ref a6, .ref a7, .ref a8, .ref a9, .int 100, .int 0, .int 0, .int (-1)])), (a5, .inr (8, [.ref a10, .ref a11, .ref a12, .ref a13, .ref a14, .ref a15, .ref a16, .int 0])), (a6, .inl (cI, 7, .inl (fun _ => 0))), (a1, .inr (7, [.int 100, .int 100, .int 0, .ref a17, .ref a18, .int 0, .ref a19, .ref a20, .ref a21, .ref a22, .ref a23, .ref a24, .ref a25, .ref a26, .ref a27])), (a2, .inr (8, [.ref a35, .ref a36, .ref a37, .ref a38, .ref a39, .ref a40, .ref a41, .int 0]))]) (k_rV hC hN hK hP hD (c53_X4_gatherFrom l G cI cJ cB cZ a0 a26 a28 a29 a30 a31 a32 a33 a34) [4] rfl (by decide) mi_X4_gatherFrom in_X4_gatherFrom se_X4_gatherFrom wm_X4_66 4 0 rfl rfl rfl hl.1 rfl rfl (Nat.le_of_ble_eq_true rfl) ⟨(Nat.le_of_ble_eq_true rfl), (Nat.le_of_ble_eq_true rfl)⟩ dX4_gather_45 ⟨(Nat.le_of_ble_eq_true rfl), (Nat.le_of_ble_eq_true rfl)⟩) hP hD hS hA [4] [0, 1, 2, 3, 5] rfl rfl (by decide) (by decide) (fun u1 H locs hp hP hD hS => ?_)
  have hP : va_P G cl [(a0, .inr (4, [.ref a1, .ref a4, .ref a5, .ref a6, .ref a7, .ref a8, .ref a9, .int 100, .int 0, .int 0, .int (-1)])), (a5, .inr (8, [.ref a10, .ref a11, .ref a12, .ref a13, .ref a14, .ref a15, .ref a16, .int 0])), (a6, .inl (cI, 7, .inl (fun _ => 0))), (a1, .inr (7, [.int 100, .int 100, .int 0, .ref a17, .ref a18, .int 0, .ref a19, .ref a20, .ref a21, .ref a22, .ref a23, .ref a24, .ref a25, .ref a26, .ref a27])), (a2, .inr (8, [.ref a35, .ref a36, .ref a37, .ref a38, .ref a39, .ref a40, .ref a41, .int 0])), (a26, .inr (8, [.ref a28, .ref a29, .ref a30, .ref a31, .ref a32, .ref a33, .ref a34, .int 0]))] H := hP
  have hD : va_D A [(a0, .inr (4, [.ref a1, .ref a4, .ref a5, .ref a6, .ref a7, .ref a8, .ref a9, .int 100, .int 0, .int 0, .int (-1)])), (a5, .inr (8, [.ref a10, .ref a11, .ref a12, .ref a13, .ref a14, .ref a15, .ref a16, .int 0])), (a6, .inl (cI, 7, .inl (fun _ => 0))), (a1, .inr (7, [.int 100, .int 100, .int 0, .ref a17, .ref a18, .int 0, .ref a19, .ref a20, .ref a21, .ref a22, .ref a23, .ref a24, .ref a25, .ref a26, .ref a27])), (a2, .inr (8, [.ref a35, .ref a36, .ref a37, .ref a38, .ref a39, .ref a40, .ref a41, .int 0])), (a26, .inr (8, [.ref a28, .ref a29, .ref a30, .ref a31, .ref a32, .ref a33, .ref a34, .int 0]))] := hD
  refine lv_aload_n hx hb dX4_gather_48 rfl (lv_at hl 1 rfl) ?_
  refine lv_aload_n hx hb dX4_gather_49 rfl (lv_at hl 3 rfl) ?_
  refine lv_lload_n hx hb dX4_gather_50 rfl (lv_at hl 4 rfl) ?_
  refine lv_bipush (v := 16) hx hb dX4_gather_51 (by decide) ?_
  refine lv_lshr (v := 0) hx hb dX4_gather_53 (by decide +kernel) ?_
  refine lv_iload hx hb dX4_gather_54 (lv_at hl 0 rfl) ?_
  refine k_cv (wr := [(a0, .inr (4, [.ref a1, .ref a4, .ref a5, .ref a6, .ref a7, .ref a8, .ref a9, .int 100, .int 0, .int 0, .int (-1)])), (a5, .inr (8, [.ref a10, .ref a11, .ref a12, .ref a13, .ref a14, .ref a15, .ref a16, .int 0])), (a6, .inl (cI, 7, .inl (fun _ => 0))), (a1, .inr (7, [.int 100, .int 100, .int 0, .ref a17, .ref a18, .int 0, .ref a19, .ref a20, .ref a21, .ref a22, .ref a23, .ref a24, .ref a25, .ref a26, .ref a27])), (a26, .inr (8, [.ref a28, .ref a29, .ref a30, .ref a31, .ref a32, .ref a33, .ref a34, .int 0]))]) (k_rV hC hN hK hP hD (c53_X4_gatherFrom l G cI cJ cB cZ a0 a2 a35 a36 a37 a38 a39 a40 a41) [4] rfl (by decide) mi_X4_gatherFrom in_X4_gatherFrom se_X4_gatherFrom wm_X4_66 4 0 rfl rfl rfl hl.1 rfl rfl (Nat.le_of_ble_eq_true rfl) ⟨(Nat.le_of_ble_eq_true rfl), (Nat.le_of_ble_eq_true rfl)⟩ dX4_gather_56 ⟨(Nat.le_of_ble_eq_true rfl), (Nat.le_of_ble_eq_true rfl)⟩) hP hD hS hA [4] [0, 1, 2, 3, 5] rfl rfl (by decide) (by decide) (fun u2 H locs hp hP hD hS => ?_)
  have hP : va_P G cl [(a0, .inr (4, [.ref a1, .ref a4, .ref a5, .ref a6, .ref a7, .ref a8, .ref a9, .int 100, .int 0, .int 0, .int (-1)])), (a5, .inr (8, [.ref a10, .ref a11, .ref a12, .ref a13, .ref a14, .ref a15, .ref a16, .int 0])), (a6, .inl (cI, 7, .inl (fun _ => 0))), (a1, .inr (7, [.int 100, .int 100, .int 0, .ref a17, .ref a18, .int 0, .ref a19, .ref a20, .ref a21, .ref a22, .ref a23, .ref a24, .ref a25, .ref a26, .ref a27])), (a26, .inr (8, [.ref a28, .ref a29, .ref a30, .ref a31, .ref a32, .ref a33, .ref a34, .int 0])), (a2, .inr (8, [.ref a35, .ref a36, .ref a37, .ref a38, .ref a39, .ref a40, .ref a41, .int 0]))] H := hP
  have hD : va_D A [(a0, .inr (4, [.ref a1, .ref a4, .ref a5, .ref a6, .ref a7, .ref a8, .ref a9, .int 100, .int 0, .int 0, .int (-1)])), (a5, .inr (8, [.ref a10, .ref a11, .ref a12, .ref a13, .ref a14, .ref a15, .ref a16, .int 0])), (a6, .inl (cI, 7, .inl (fun _ => 0))), (a1, .inr (7, [.int 100, .int 100, .int 0, .ref a17, .ref a18, .int 0, .ref a19, .ref a20, .ref a21, .ref a22, .ref a23, .ref a24, .ref a25, .ref a26, .ref a27])), (a26, .inr (8, [.ref a28, .ref a29, .ref a30, .ref a31, .ref a32, .ref a33, .ref a34, .int 0])), (a2, .inr (8, [.ref a35, .ref a36, .ref a37, .ref a38, .ref a39, .ref a40, .ref a41, .int 0]))] := hD
  refine lv_iinc (v := 1) (lv' := [(5, .int 1), (0, .ref a0), (1, .ref a1), (2, .ref a2), (3, .long 0)]) hx hb dX4_gather_59 hl (k := 0) rfl (by decide +kernel) (by decide) rfl (fun ls hl => ?_)
  refine lv_goto (tgt := 16) hx hb dX4_gather_62 (by decide) ?_
  refine lv_iload hx hb dX4_gather_16 (lv_at hl 0 rfl) ?_
  refine lv_bipush (v := 6) hx hb dX4_gather_18 (by decide) ?_
  refine lv_icmp_ge (tgt := 65) hx hb dX4_gather_20 (by decide) (fun c_ => absurd c_ (by decide +kernel)) (fun _ => ?_)
  refine lv_aload_n hx hb dX4_gather_23 rfl (lv_at hl 1 rfl) ?_
  refine k_get hC hK hP iX4 0 3 wf_X4_34 rfl (by decide) rfl rfl dX4_gather_24 ?_
  refine lv_iload hx hb dX4_gather_27 (lv_at hl 0 rfl) ?_
  refine lv_aload_n hx hb dX4_gather_29 rfl (lv_at hl 1 rfl) ?_
  refine k_get hC hK hP iX4 0 2 wf_X4_30 rfl (by decide) rfl rfl dX4_gather_30 ?_
  refine k_getN hC hN hK hP iX8 1 7 wf_X4_60 rfl (by decide) rfl rfl dX4_gather_33 ?_
  refine k_iastS hC hK hP hD hS 2 1 rfl (by decide +kernel) (by decide) (by decide +kernel) dX4_gather_36 (fun H locs hP hD hS => ?_)
  refine lv_aload_n hx hb dX4_gather_37 rfl (lv_at hl 1 rfl) ?_
  refine lv_aload_n hx hb dX4_gather_38 rfl (lv_at hl 2 rfl) ?_
  refine k_getN hC hN hK hP iX7 3 13 wf_X4_63 rfl (by decide) rfl rfl dX4_gather_39 ?_
  refine lv_lload_n hx hb dX4_gather_42 rfl (lv_at hl 4 rfl) ?_
  refine lv_iload hx hb dX4_gather_43 (lv_at hl 0 rfl) ?_
  refine k_cv (wr := [(a0, .inr (4, [.ref a1, .ref a4, .ref a5, .ref a6, .ref a7, .ref a8, .ref a9, .int 100, .int 0, .int 0, .int (-1)])), (a5, .inr (8, [.ref a10, .ref a11, .ref a12, .ref a13, .ref a14, .ref a15, .ref a16, .int 0])), (a6, .inl (cI, 7, .inl (fun _ => 0))), (a1, .inr (7, [.int 100, .int 100, .int 0, .ref a17, .ref a18, .int 0, .ref a19, .ref a20, .ref a21, .ref a22, .ref a23, .ref a24, .ref a25, .ref a26, .ref a27])), (a2, .inr (8, [.ref a35, .ref a36, .ref a37, .ref a38, .ref a39, .ref a40, .ref a41, .int 0]))]) (k_rV hC hN hK hP hD (c54_X4_gatherFrom l G cI cJ cB cZ a0 a26 a28 a29 a30 a31 a32 a33 a34) [4] rfl (by decide) mi_X4_gatherFrom in_X4_gatherFrom se_X4_gatherFrom wm_X4_66 4 0 rfl rfl rfl hl.1 rfl rfl (Nat.le_of_ble_eq_true rfl) ⟨(Nat.le_of_ble_eq_true rfl), (Nat.le_of_ble_eq_true rfl)⟩ dX4_gather_45 ⟨(Nat.le_of_ble_eq_true rfl), (Nat.le_of_ble_eq_true rfl)⟩) hP hD hS hA [4] [0, 1, 2, 3, 5] rfl rfl (by decide) (by decide) (fun u3 H locs hp hP hD hS => ?_)
  have hP : va_P G cl [(a0, .inr (4, [.ref a1, .ref a4, .ref a5, .ref a6, .ref a7, .ref a8, .ref a9, .int 100, .int 0, .int 0, .int (-1)])), (a5, .inr (8, [.ref a10, .ref a11, .ref a12, .ref a13, .ref a14, .ref a15, .ref a16, .int 0])), (a6, .inl (cI, 7, .inl (fun _ => 0))), (a1, .inr (7, [.int 100, .int 100, .int 0, .ref a17, .ref a18, .int 0, .ref a19, .ref a20, .ref a21, .ref a22, .ref a23, .ref a24, .ref a25, .ref a26, .ref a27])), (a2, .inr (8, [.ref a35, .ref a36, .ref a37, .ref a38, .ref a39, .ref a40, .ref a41, .int 0])), (a26, .inr (8, [.ref a28, .ref a29, .ref a30, .ref a31, .ref a32, .ref a33, .ref a34, .int 0]))] H := hP
  have hD : va_D A [(a0, .inr (4, [.ref a1, .ref a4, .ref a5, .ref a6, .ref a7, .ref a8, .ref a9, .int 100, .int 0, .int 0, .int (-1)])), (a5, .inr (8, [.ref a10, .ref a11, .ref a12, .ref a13, .ref a14, .ref a15, .ref a16, .int 0])), (a6, .inl (cI, 7, .inl (fun _ => 0))), (a1, .inr (7, [.int 100, .int 100, .int 0, .ref a17, .ref a18, .int 0, .ref a19, .ref a20, .ref a21, .ref a22, .ref a23, .ref a24, .ref a25, .ref a26, .ref a27])), (a2, .inr (8, [.ref a35, .ref a36, .ref a37, .ref a38, .ref a39, .ref a40, .ref a41, .int 0])), (a26, .inr (8, [.ref a28, .ref a29, .ref a30, .ref a31, .ref a32, .ref a33, .ref a34, .int 0]))] := hD
  refine lv_aload_n hx hb dX4_gather_48 rfl (lv_at hl 1 rfl) ?_
  refine lv_aload_n hx hb dX4_gather_49 rfl (lv_at hl 3 rfl) ?_
  refine lv_lload_n hx hb dX4_gather_50 rfl (lv_at hl 4 rfl) ?_
  refine lv_bipush (v := 16) hx hb dX4_gather_51 (by decide) ?_
  refine lv_lshr (v := 0) hx hb dX4_gather_53 (by decide +kernel) ?_
  refine lv_iload hx hb dX4_gather_54 (lv_at hl 0 rfl) ?_
  refine k_cv (wr := [(a0, .inr (4, [.ref a1, .ref a4, .ref a5, .ref a6, .ref a7, .ref a8, .ref a9, .int 100, .int 0, .int 0, .int (-1)])), (a5, .inr (8, [.ref a10, .ref a11, .ref a12, .ref a13, .ref a14, .ref a15, .ref a16, .int 0])), (a6, .inl (cI, 7, .inl (fun _ => 0))), (a1, .inr (7, [.int 100, .int 100, .int 0, .ref a17, .ref a18, .int 0, .ref a19, .ref a20, .ref a21, .ref a22, .ref a23, .ref a24, .ref a25, .ref a26, .ref a27])), (a26, .inr (8, [.ref a28, .ref a29, .ref a30, .ref a31, .ref a32, .ref a33, .ref a34, .int 0]))]) (k_rV hC hN hK hP hD (c54_X4_gatherFrom l G cI cJ cB cZ a0 a2 a35 a36 a37 a38 a39 a40 a41) [4] rfl (by decide) mi_X4_gatherFrom in_X4_gatherFrom se_X4_gatherFrom wm_X4_66 4 0 rfl rfl rfl hl.1 rfl rfl (Nat.le_of_ble_eq_true rfl) ⟨(Nat.le_of_ble_eq_true rfl), (Nat.le_of_ble_eq_true rfl)⟩ dX4_gather_56 ⟨(Nat.le_of_ble_eq_true rfl), (Nat.le_of_ble_eq_true rfl)⟩) hP hD hS hA [4] [0, 1, 2, 3, 5] rfl rfl (by decide) (by decide) (fun u4 H locs hp hP hD hS => ?_)
  have hP : va_P G cl [(a0, .inr (4, [.ref a1, .ref a4, .ref a5, .ref a6, .ref a7, .ref a8, .ref a9, .int 100, .int 0, .int 0, .int (-1)])), (a5, .inr (8, [.ref a10, .ref a11, .ref a12, .ref a13, .ref a14, .ref a15, .ref a16, .int 0])), (a6, .inl (cI, 7, .inl (fun _ => 0))), (a1, .inr (7, [.int 100, .int 100, .int 0, .ref a17, .ref a18, .int 0, .ref a19, .ref a20, .ref a21, .ref a22, .ref a23, .ref a24, .ref a25, .ref a26, .ref a27])), (a26, .inr (8, [.ref a28, .ref a29, .ref a30, .ref a31, .ref a32, .ref a33, .ref a34, .int 0])), (a2, .inr (8, [.ref a35, .ref a36, .ref a37, .ref a38, .ref a39, .ref a40, .ref a41, .int 0]))] H := hP
  have hD : va_D A [(a0, .inr (4, [.ref a1, .ref a4, .ref a5, .ref a6, .ref a7, .ref a8, .ref a9, .int 100, .int 0, .int 0, .int (-1)])), (a5, .inr (8, [.ref a10, .ref a11, .ref a12, .ref a13, .ref a14, .ref a15, .ref a16, .int 0])), (a6, .inl (cI, 7, .inl (fun _ => 0))), (a1, .inr (7, [.int 100, .int 100, .int 0, .ref a17, .ref a18, .int 0, .ref a19, .ref a20, .ref a21, .ref a22, .ref a23, .ref a24, .ref a25, .ref a26, .ref a27])), (a26, .inr (8, [.ref a28, .ref a29, .ref a30, .ref a31, .ref a32, .ref a33, .ref a34, .int 0])), (a2, .inr (8, [.ref a35, .ref a36, .ref a37, .ref a38, .ref a39, .ref a40, .ref a41, .int 0]))] := hD
  refine lv_iinc (v := 2) (lv' := [(5, .int 2), (0, .ref a0), (1, .ref a1), (2, .ref a2), (3, .long 0)]) hx hb dX4_gather_59 hl (k := 0) rfl (by decide +kernel) (by decide) rfl (fun ls hl => ?_)
  refine lv_goto (tgt := 16) hx hb dX4_gather_62 (by decide) ?_
  refine lv_iload hx hb dX4_gather_16 (lv_at hl 0 rfl) ?_
  refine lv_bipush (v := 6) hx hb dX4_gather_18 (by decide) ?_
  refine lv_icmp_ge (tgt := 65) hx hb dX4_gather_20 (by decide) (fun c_ => absurd c_ (by decide +kernel)) (fun _ => ?_)
  refine lv_aload_n hx hb dX4_gather_23 rfl (lv_at hl 1 rfl) ?_
  refine k_get hC hK hP iX4 0 3 wf_X4_34 rfl (by decide) rfl rfl dX4_gather_24 ?_
  refine lv_iload hx hb dX4_gather_27 (lv_at hl 0 rfl) ?_
  refine lv_aload_n hx hb dX4_gather_29 rfl (lv_at hl 1 rfl) ?_
  refine k_get hC hK hP iX4 0 2 wf_X4_30 rfl (by decide) rfl rfl dX4_gather_30 ?_
  refine k_getN hC hN hK hP iX8 1 7 wf_X4_60 rfl (by decide) rfl rfl dX4_gather_33 ?_
  refine k_iastS hC hK hP hD hS 2 2 rfl (by decide +kernel) (by decide) (by decide +kernel) dX4_gather_36 (fun H locs hP hD hS => ?_)
  refine lv_aload_n hx hb dX4_gather_37 rfl (lv_at hl 1 rfl) ?_
  refine lv_aload_n hx hb dX4_gather_38 rfl (lv_at hl 2 rfl) ?_
  refine k_getN hC hN hK hP iX7 3 13 wf_X4_63 rfl (by decide) rfl rfl dX4_gather_39 ?_
  refine lv_lload_n hx hb dX4_gather_42 rfl (lv_at hl 4 rfl) ?_
  refine lv_iload hx hb dX4_gather_43 (lv_at hl 0 rfl) ?_
  refine k_cv (wr := [(a0, .inr (4, [.ref a1, .ref a4, .ref a5, .ref a6, .ref a7, .ref a8, .ref a9, .int 100, .int 0, .int 0, .int (-1)])), (a5, .inr (8, [.ref a10, .ref a11, .ref a12, .ref a13, .ref a14, .ref a15, .ref a16, .int 0])), (a6, .inl (cI, 7, .inl (fun _ => 0))), (a1, .inr (7, [.int 100, .int 100, .int 0, .ref a17, .ref a18, .int 0, .ref a19, .ref a20, .ref a21, .ref a22, .ref a23, .ref a24, .ref a25, .ref a26, .ref a27])), (a2, .inr (8, [.ref a35, .ref a36, .ref a37, .ref a38, .ref a39, .ref a40, .ref a41, .int 0]))]) (k_rV hC hN hK hP hD (c55_X4_gatherFrom l G cI cJ cB cZ a0 a26 a28 a29 a30 a31 a32 a33 a34) [4] rfl (by decide) mi_X4_gatherFrom in_X4_gatherFrom se_X4_gatherFrom wm_X4_66 4 0 rfl rfl rfl hl.1 rfl rfl (Nat.le_of_ble_eq_true rfl) ⟨(Nat.le_of_ble_eq_true rfl), (Nat.le_of_ble_eq_true rfl)⟩ dX4_gather_45 ⟨(Nat.le_of_ble_eq_true rfl), (Nat.le_of_ble_eq_true rfl)⟩) hP hD hS hA [4] [0, 1, 2, 3, 5] rfl rfl (by decide) (by decide) (fun u5 H locs hp hP hD hS => ?_)
  have hP : va_P G cl [(a0, .inr (4, [.ref a1, .ref a4, .ref a5, .ref a6, .ref a7, .ref a8, .ref a9, .int 100, .int 0, .int 0, .int (-1)])), (a5, .inr (8, [.ref a10, .ref a11, .ref a12, .ref a13, .ref a14, .ref a15, .ref a16, .int 0])), (a6, .inl (cI, 7, .inl (fun _ => 0))), (a1, .inr (7, [.int 100, .int 100, .int 0, .ref a17, .ref a18, .int 0, .ref a19, .ref a20, .ref a21, .ref a22, .ref a23, .ref a24, .ref a25, .ref a26, .ref a27])), (a2, .inr (8, [.ref a35, .ref a36, .ref a37, .ref a38, .ref a39, .ref a40, .ref a41, .int 0])), (a26, .inr (8, [.ref a28, .ref a29, .ref a30, .ref a31, .ref a32, .ref a33, .ref a34, .int 0]))] H := hP
  have hD : va_D A [(a0, .inr (4, [.ref a1, .ref a4, .ref a5, .ref a6, .ref a7, .ref a8, .ref a9, .int 100, .int 0, .int 0, .int (-1)])), (a5, .inr (8, [.ref a10, .ref a11, .ref a12, .ref a13, .ref a14, .ref a15, .ref a16, .int 0])), (a6, .inl (cI, 7, .inl (fun _ => 0))), (a1, .inr (7, [.int 100, .int 100, .int 0, .ref a17, .ref a18, .int 0, .ref a19, .ref a20, .ref a21, .ref a22, .ref a23, .ref a24, .ref a25, .ref a26, .ref a27])), (a2, .inr (8, [.ref a35, .ref a36, .ref a37, .ref a38, .ref a39, .ref a40, .ref a41, .int 0])), (a26, .inr (8, [.ref a28, .ref a29, .ref a30, .ref a31, .ref a32, .ref a33, .ref a34, .int 0]))] := hD
  refine lv_aload_n hx hb dX4_gather_48 rfl (lv_at hl 1 rfl) ?_
  refine lv_aload_n hx hb dX4_gather_49 rfl (lv_at hl 3 rfl) ?_
  refine lv_lload_n hx hb dX4_gather_50 rfl (lv_at hl 4 rfl) ?_
  refine lv_bipush (v := 16) hx hb dX4_gather_51 (by decide) ?_
  refine lv_lshr (v := 0) hx hb dX4_gather_53 (by decide +kernel) ?_
  refine lv_iload hx hb dX4_gather_54 (lv_at hl 0 rfl) ?_
  refine k_cv (wr := [(a0, .inr (4, [.ref a1, .ref a4, .ref a5, .ref a6, .ref a7, .ref a8, .ref a9, .int 100, .int 0, .int 0, .int (-1)])), (a5, .inr (8, [.ref a10, .ref a11, .ref a12, .ref a13, .ref a14, .ref a15, .ref a16, .int 0])), (a6, .inl (cI, 7, .inl (fun _ => 0))), (a1, .inr (7, [.int 100, .int 100, .int 0, .ref a17, .ref a18, .int 0, .ref a19, .ref a20, .ref a21, .ref a22, .ref a23, .ref a24, .ref a25, .ref a26, .ref a27])), (a26, .inr (8, [.ref a28, .ref a29, .ref a30, .ref a31, .ref a32, .ref a33, .ref a34, .int 0]))]) (k_rV hC hN hK hP hD (c55_X4_gatherFrom l G cI cJ cB cZ a0 a2 a35 a36 a37 a38 a39 a40 a41) [4] rfl (by decide) mi_X4_gatherFrom in_X4_gatherFrom se_X4_gatherFrom wm_X4_66 4 0 rfl rfl rfl hl.1 rfl rfl (Nat.le_of_ble_eq_true rfl) ⟨(Nat.le_of_ble_eq_true rfl), (Nat.le_of_ble_eq_true rfl)⟩ dX4_gather_56 ⟨(Nat.le_of_ble_eq_true rfl), (Nat.le_of_ble_eq_true rfl)⟩) hP hD hS hA [4] [0, 1, 2, 3, 5] rfl rfl (by decide) (by decide) (fun u6 H locs hp hP hD hS => ?_)
  have hP : va_P G cl [(a0, .inr (4, [.ref a1, .ref a4, .ref a5, .ref a6, .ref a7, .ref a8, .ref a9, .int 100, .int 0, .int 0, .int (-1)])), (a5, .inr (8, [.ref a10, .ref a11, .ref a12, .ref a13, .ref a14, .ref a15, .ref a16, .int 0])), (a6, .inl (cI, 7, .inl (fun _ => 0))), (a1, .inr (7, [.int 100, .int 100, .int 0, .ref a17, .ref a18, .int 0, .ref a19, .ref a20, .ref a21, .ref a22, .ref a23, .ref a24, .ref a25, .ref a26, .ref a27])), (a26, .inr (8, [.ref a28, .ref a29, .ref a30, .ref a31, .ref a32, .ref a33, .ref a34, .int 0])), (a2, .inr (8, [.ref a35, .ref a36, .ref a37, .ref a38, .ref a39, .ref a40, .ref a41, .int 0]))] H := hP
  have hD : va_D A [(a0, .inr (4, [.ref a1, .ref a4, .ref a5, .ref a6, .ref a7, .ref a8, .ref a9, .int 100, .int 0, .int 0, .int (-1)])), (a5, .inr (8, [.ref a10, .ref a11, .ref a12, .ref a13, .ref a14, .ref a15, .ref a16, .int 0])), (a6, .inl (cI, 7, .inl (fun _ => 0))), (a1, .inr (7, [.int 100, .int 100, .int 0, .ref a17, .ref a18, .int 0, .ref a19, .ref a20, .ref a21, .ref a22, .ref a23, .ref a24, .ref a25, .ref a26, .ref a27])), (a26, .inr (8, [.ref a28, .ref a29, .ref a30, .ref a31, .ref a32, .ref a33, .ref a34, .int 0])), (a2, .inr (8, [.ref a35, .ref a36, .ref a37, .ref a38, .ref a39, .ref a40, .ref a41, .int 0]))] := hD
  refine lv_iinc (v := 3) (lv' := [(5, .int 3), (0, .ref a0), (1, .ref a1), (2, .ref a2), (3, .long 0)]) hx hb dX4_gather_59 hl (k := 0) rfl (by decide +kernel) (by decide) rfl (fun ls hl => ?_)
  refine lv_goto (tgt := 16) hx hb dX4_gather_62 (by decide) ?_
  refine lv_iload hx hb dX4_gather_16 (lv_at hl 0 rfl) ?_
  refine lv_bipush (v := 6) hx hb dX4_gather_18 (by decide) ?_
  refine lv_icmp_ge (tgt := 65) hx hb dX4_gather_20 (by decide) (fun c_ => absurd c_ (by decide +kernel)) (fun _ => ?_)
  refine lv_aload_n hx hb dX4_gather_23 rfl (lv_at hl 1 rfl) ?_
  refine k_get hC hK hP iX4 0 3 wf_X4_34 rfl (by decide) rfl rfl dX4_gather_24 ?_
  refine lv_iload hx hb dX4_gather_27 (lv_at hl 0 rfl) ?_
  refine lv_aload_n hx hb dX4_gather_29 rfl (lv_at hl 1 rfl) ?_
  refine k_get hC hK hP iX4 0 2 wf_X4_30 rfl (by decide) rfl rfl dX4_gather_30 ?_
  refine k_getN hC hN hK hP iX8 1 7 wf_X4_60 rfl (by decide) rfl rfl dX4_gather_33 ?_
  refine k_iastS hC hK hP hD hS 2 3 rfl (by decide +kernel) (by decide) (by decide +kernel) dX4_gather_36 (fun H locs hP hD hS => ?_)
  refine lv_aload_n hx hb dX4_gather_37 rfl (lv_at hl 1 rfl) ?_
  refine lv_aload_n hx hb dX4_gather_38 rfl (lv_at hl 2 rfl) ?_
  refine k_getN hC hN hK hP iX7 3 13 wf_X4_63 rfl (by decide) rfl rfl dX4_gather_39 ?_
  refine lv_lload_n hx hb dX4_gather_42 rfl (lv_at hl 4 rfl) ?_
  refine lv_iload hx hb dX4_gather_43 (lv_at hl 0 rfl) ?_
  refine k_cv (wr := [(a0, .inr (4, [.ref a1, .ref a4, .ref a5, .ref a6, .ref a7, .ref a8, .ref a9, .int 100, .int 0, .int 0, .int (-1)])), (a5, .inr (8, [.ref a10, .ref a11, .ref a12, .ref a13, .ref a14, .ref a15, .ref a16, .int 0])), (a6, .inl (cI, 7, .inl (fun _ => 0))), (a1, .inr (7, [.int 100, .int 100, .int 0, .ref a17, .ref a18, .int 0, .ref a19, .ref a20, .ref a21, .ref a22, .ref a23, .ref a24, .ref a25, .ref a26, .ref a27])), (a2, .inr (8, [.ref a35, .ref a36, .ref a37, .ref a38, .ref a39, .ref a40, .ref a41, .int 0]))]) (k_rV hC hN hK hP hD (c56_X4_gatherFrom l G cI cJ cB cZ a0 a26 a28 a29 a30 a31 a32 a33 a34) [4] rfl (by decide) mi_X4_gatherFrom in_X4_gatherFrom se_X4_gatherFrom wm_X4_66 4 0 rfl rfl rfl hl.1 rfl rfl (Nat.le_of_ble_eq_true rfl) ⟨(Nat.le_of_ble_eq_true rfl), (Nat.le_of_ble_eq_true rfl)⟩ dX4_gather_45 ⟨(Nat.le_of_ble_eq_true rfl), (Nat.le_of_ble_eq_true rfl)⟩) hP hD hS hA [4] [0, 1, 2, 3, 5] rfl rfl (by decide) (by decide) (fun u7 H locs hp hP hD hS => ?_)
  have hP : va_P G cl [(a0, .inr (4, [.ref a1, .ref a4, .ref a5, .ref a6, .ref a7, .ref a8, .ref a9, .int 100, .int 0, .int 0, .int (-1)])), (a5, .inr (8, [.ref a10, .ref a11, .ref a12, .ref a13, .ref a14, .ref a15, .ref a16, .int 0])), (a6, .inl (cI, 7, .inl (fun _ => 0))), (a1, .inr (7, [.int 100, .int 100, .int 0, .ref a17, .ref a18, .int 0, .ref a19, .ref a20, .ref a21, .ref a22, .ref a23, .ref a24, .ref a25, .ref a26, .ref a27])), (a2, .inr (8, [.ref a35, .ref a36, .ref a37, .ref a38, .ref a39, .ref a40, .ref a41, .int 0])), (a26, .inr (8, [.ref a28, .ref a29, .ref a30, .ref a31, .ref a32, .ref a33, .ref a34, .int 0]))] H := hP
  have hD : va_D A [(a0, .inr (4, [.ref a1, .ref a4, .ref a5, .ref a6, .ref a7, .ref a8, .ref a9, .int 100, .int 0, .int 0, .int (-1)])), (a5, .inr (8, [.ref a10, .ref a11, .ref a12, .ref a13, .ref a14, .ref a15, .ref a16, .int 0])), (a6, .inl (cI, 7, .inl (fun _ => 0))), (a1, .inr (7, [.int 100, .int 100, .int 0, .ref a17, .ref a18, .int 0, .ref a19, .ref a20, .ref a21, .ref a22, .ref a23, .ref a24, .ref a25, .ref a26, .ref a27])), (a2, .inr (8, [.ref a35, .ref a36, .ref a37, .ref a38, .ref a39, .ref a40, .ref a41, .int 0])), (a26, .inr (8, [.ref a28, .ref a29, .ref a30, .ref a31, .ref a32, .ref a33, .ref a34, .int 0]))] := hD
  refine lv_aload_n hx hb dX4_gather_48 rfl (lv_at hl 1 rfl) ?_
  refine lv_aload_n hx hb dX4_gather_49 rfl (lv_at hl 3 rfl) ?_
  refine lv_lload_n hx hb dX4_gather_50 rfl (lv_at hl 4 rfl) ?_
  refine lv_bipush (v := 16) hx hb dX4_gather_51 (by decide) ?_
  refine lv_lshr (v := 0) hx hb dX4_gather_53 (by decide +kernel) ?_
  refine lv_iload hx hb dX4_gather_54 (lv_at hl 0 rfl) ?_
  refine k_cv (wr := [(a0, .inr (4, [.ref a1, .ref a4, .ref a5, .ref a6, .ref a7, .ref a8, .ref a9, .int 100, .int 0, .int 0, .int (-1)])), (a5, .inr (8, [.ref a10, .ref a11, .ref a12, .ref a13, .ref a14, .ref a15, .ref a16, .int 0])), (a6, .inl (cI, 7, .inl (fun _ => 0))), (a1, .inr (7, [.int 100, .int 100, .int 0, .ref a17, .ref a18, .int 0, .ref a19, .ref a20, .ref a21, .ref a22, .ref a23, .ref a24, .ref a25, .ref a26, .ref a27])), (a26, .inr (8, [.ref a28, .ref a29, .ref a30, .ref a31, .ref a32, .ref a33, .ref a34, .int 0]))]) (k_rV hC hN hK hP hD (c56_X4_gatherFrom l G cI cJ cB cZ a0 a2 a35 a36 a37 a38 a39 a40 a41) [4] rfl (by decide) mi_X4_gatherFrom in_X4_gatherFrom se_X4_gatherFrom wm_X4_66 4 0 rfl rfl rfl hl.1 rfl rfl (Nat.le_of_ble_eq_true rfl) ⟨(Nat.le_of_ble_eq_true rfl), (Nat.le_of_ble_eq_true rfl)⟩ dX4_gather_56 ⟨(Nat.le_of_ble_eq_true rfl), (Nat.le_of_ble_eq_true rfl)⟩) hP hD hS hA [4] [0, 1, 2, 3, 5] rfl rfl (by decide) (by decide) (fun u8 H locs hp hP hD hS => ?_)
  have hP : va_P G cl [(a0, .inr (4, [.ref a1, .ref a4, .ref a5, .ref a6, .ref a7, .ref a8, .ref a9, .int 100, .int 0, .int 0, .int (-1)])), (a5, .inr (8, [.ref a10, .ref a11, .ref a12, .ref a13, .ref a14, .ref a15, .ref a16, .int 0])), (a6, .inl (cI, 7, .inl (fun _ => 0))), (a1, .inr (7, [.int 100, .int 100, .int 0, .ref a17, .ref a18, .int 0, .ref a19, .ref a20, .ref a21, .ref a22, .ref a23, .ref a24, .ref a25, .ref a26, .ref a27])), (a26, .inr (8, [.ref a28, .ref a29, .ref a30, .ref a31, .ref a32, .ref a33, .ref a34, .int 0])), (a2, .inr (8, [.ref a35, .ref a36, .ref a37, .ref a38, .ref a39, .ref a40, .ref a41, .int 0]))] H := hP
  have hD : va_D A [(a0, .inr (4, [.ref a1, .ref a4, .ref a5, .ref a6, .ref a7, .ref a8, .ref a9, .int 100, .int 0, .int 0, .int (-1)])), (a5, .inr (8, [.ref a10, .ref a11, .ref a12, .ref a13, .ref a14, .ref a15, .ref a16, .int 0])), (a6, .inl (cI, 7, .inl (fun _ => 0))), (a1, .inr (7, [.int 100, .int 100, .int 0, .ref a17, .ref a18, .int 0, .ref a19, .ref a20, .ref a21, .ref a22, .ref a23, .ref a24, .ref a25, .ref a26, .ref a27])), (a26, .inr (8, [.ref a28, .ref a29, .ref a30, .ref a31, .ref a32, .ref a33, .ref a34, .int 0])), (a2, .inr (8, [.ref a35, .ref a36, .ref a37, .ref a38, .ref a39, .ref a40, .ref a41, .int 0]))] := hD
  refine lv_iinc (v := 4) (lv' := [(5, .int 4), (0, .ref a0), (1, .ref a1), (2, .ref a2), (3, .long 0)]) hx hb dX4_gather_59 hl (k := 0) rfl (by decide +kernel) (by decide) rfl (fun ls hl => ?_)
  refine lv_goto (tgt := 16) hx hb dX4_gather_62 (by decide) ?_
  refine lv_iload hx hb dX4_gather_16 (lv_at hl 0 rfl) ?_
  refine lv_bipush (v := 6) hx hb dX4_gather_18 (by decide) ?_
  refine lv_icmp_ge (tgt := 65) hx hb dX4_gather_20 (by decide) (fun c_ => absurd c_ (by decide +kernel)) (fun _ => ?_)
  refine lv_aload_n hx hb dX4_gather_23 rfl (lv_at hl 1 rfl) ?_
  refine k_get hC hK hP iX4 0 3 wf_X4_34 rfl (by decide) rfl rfl dX4_gather_24 ?_
  refine lv_iload hx hb dX4_gather_27 (lv_at hl 0 rfl) ?_
  refine lv_aload_n hx hb dX4_gather_29 rfl (lv_at hl 1 rfl) ?_
  refine k_get hC hK hP iX4 0 2 wf_X4_30 rfl (by decide) rfl rfl dX4_gather_30 ?_
  refine k_getN hC hN hK hP iX8 1 7 wf_X4_60 rfl (by decide) rfl rfl dX4_gather_33 ?_
  refine k_iastS hC hK hP hD hS 2 4 rfl (by decide +kernel) (by decide) (by decide +kernel) dX4_gather_36 (fun H locs hP hD hS => ?_)
  refine lv_aload_n hx hb dX4_gather_37 rfl (lv_at hl 1 rfl) ?_
  refine lv_aload_n hx hb dX4_gather_38 rfl (lv_at hl 2 rfl) ?_
  refine k_getN hC hN hK hP iX7 3 13 wf_X4_63 rfl (by decide) rfl rfl dX4_gather_39 ?_
  refine lv_lload_n hx hb dX4_gather_42 rfl (lv_at hl 4 rfl) ?_
  refine lv_iload hx hb dX4_gather_43 (lv_at hl 0 rfl) ?_
  refine k_cv (wr := [(a0, .inr (4, [.ref a1, .ref a4, .ref a5, .ref a6, .ref a7, .ref a8, .ref a9, .int 100, .int 0, .int 0, .int (-1)])), (a5, .inr (8, [.ref a10, .ref a11, .ref a12, .ref a13, .ref a14, .ref a15, .ref a16, .int 0])), (a6, .inl (cI, 7, .inl (fun _ => 0))), (a1, .inr (7, [.int 100, .int 100, .int 0, .ref a17, .ref a18, .int 0, .ref a19, .ref a20, .ref a21, .ref a22, .ref a23, .ref a24, .ref a25, .ref a26, .ref a27])), (a2, .inr (8, [.ref a35, .ref a36, .ref a37, .ref a38, .ref a39, .ref a40, .ref a41, .int 0]))]) (k_rV hC hN hK hP hD (c57_X4_gatherFrom l G cI cJ cB cZ a0 a26 a28 a29 a30 a31 a32 a33 a34) [4] rfl (by decide) mi_X4_gatherFrom in_X4_gatherFrom se_X4_gatherFrom wm_X4_66 4 0 rfl rfl rfl hl.1 rfl rfl (Nat.le_of_ble_eq_true rfl) ⟨(Nat.le_of_ble_eq_true rfl), (Nat.le_of_ble_eq_true rfl)⟩ dX4_gather_45 ⟨(Nat.le_of_ble_eq_true rfl), (Nat.le_of_ble_eq_true rfl)⟩) hP hD hS hA [4] [0, 1, 2, 3, 5] rfl rfl (by decide) (by decide) (fun u9 H locs hp hP hD hS => ?_)
  have hP : va_P G cl [(a0, .inr (4, [.ref a1, .ref a4, .ref a5, .ref a6, .ref a7, .ref a8, .ref a9, .int 100, .int 0, .int 0, .int (-1)])), (a5, .inr (8, [.ref a10, .ref a11, .ref a12, .ref a13, .ref a14, .ref a15, .ref a16, .int 0])), (a6, .inl (cI, 7, .inl (fun _ => 0))), (a1, .inr (7, [.int 100, .int 100, .int 0, .ref a17, .ref a18, .int 0, .ref a19, .ref a20, .ref a21, .ref a22, .ref a23, .ref a24, .ref a25, .ref a26, .ref a27])), (a2, .inr (8, [.ref a35, .ref a36, .ref a37, .ref a38, .ref a39, .ref a40, .ref a41, .int 0])), (a26, .inr (8, [.ref a28, .ref a29, .ref a30, .ref a31, .ref a32, .ref a33, .ref a34, .int 0]))] H := hP
  have hD : va_D A [(a0, .inr (4, [.ref a1, .ref a4, .ref a5, .ref a6, .ref a7, .ref a8, .ref a9, .int 100, .int 0, .int 0, .int (-1)])), (a5, .inr (8, [.ref a10, .ref a11, .ref a12, .ref a13, .ref a14, .ref a15, .ref a16, .int 0])), (a6, .inl (cI, 7, .inl (fun _ => 0))), (a1, .inr (7, [.int 100, .int 100, .int 0, .ref a17, .ref a18, .int 0, .ref a19, .ref a20, .ref a21, .ref a22, .ref a23, .ref a24, .ref a25, .ref a26, .ref a27])), (a2, .inr (8, [.ref a35, .ref a36, .ref a37, .ref a38, .ref a39, .ref a40, .ref a41, .int 0])), (a26, .inr (8, [.ref a28, .ref a29, .ref a30, .ref a31, .ref a32, .ref a33, .ref a34, .int 0]))] := hD
  refine lv_aload_n hx hb dX4_gather_48 rfl (lv_at hl 1 rfl) ?_
  refine lv_aload_n hx hb dX4_gather_49 rfl (lv_at hl 3 rfl) ?_
  refine lv_lload_n hx hb dX4_gather_50 rfl (lv_at hl 4 rfl) ?_
  refine lv_bipush (v := 16) hx hb dX4_gather_51 (by decide) ?_
  refine lv_lshr (v := 0) hx hb dX4_gather_53 (by decide +kernel) ?_
  refine lv_iload hx hb dX4_gather_54 (lv_at hl 0 rfl) ?_
  refine k_cv (wr := [(a0, .inr (4, [.ref a1, .ref a4, .ref a5, .ref a6, .ref a7, .ref a8, .ref a9, .int 100, .int 0, .int 0, .int (-1)])), (a5, .inr (8, [.ref a10, .ref a11, .ref a12, .ref a13, .ref a14, .ref a15, .ref a16, .int 0])), (a6, .inl (cI, 7, .inl (fun _ => 0))), (a1, .inr (7, [.int 100, .int 100, .int 0, .ref a17, .ref a18, .int 0, .ref a19, .ref a20, .ref a21, .ref a22, .ref a23, .ref a24, .ref a25, .ref a26, .ref a27])), (a26, .inr (8, [.ref a28, .ref a29, .ref a30, .ref a31, .ref a32, .ref a33, .ref a34, .int 0]))]) (k_rV hC hN hK hP hD (c57_X4_gatherFrom l G cI cJ cB cZ a0 a2 a35 a36 a37 a38 a39 a40 a41) [4] rfl (by decide) mi_X4_gatherFrom in_X4_gatherFrom se_X4_gatherFrom wm_X4_66 4 0 rfl rfl rfl hl.1 rfl rfl (Nat.le_of_ble_eq_true rfl) ⟨(Nat.le_of_ble_eq_true rfl), (Nat.le_of_ble_eq_true rfl)⟩ dX4_gather_56 ⟨(Nat.le_of_ble_eq_true rfl), (Nat.le_of_ble_eq_true rfl)⟩) hP hD hS hA [4] [0, 1, 2, 3, 5] rfl rfl (by decide) (by decide) (fun u10 H locs hp hP hD hS => ?_)
  have hP : va_P G cl [(a0, .inr (4, [.ref a1, .ref a4, .ref a5, .ref a6, .ref a7, .ref a8, .ref a9, .int 100, .int 0, .int 0, .int (-1)])), (a5, .inr (8, [.ref a10, .ref a11, .ref a12, .ref a13, .ref a14, .ref a15, .ref a16, .int 0])), (a6, .inl (cI, 7, .inl (fun _ => 0))), (a1, .inr (7, [.int 100, .int 100, .int 0, .ref a17, .ref a18, .int 0, .ref a19, .ref a20, .ref a21, .ref a22, .ref a23, .ref a24, .ref a25, .ref a26, .ref a27])), (a26, .inr (8, [.ref a28, .ref a29, .ref a30, .ref a31, .ref a32, .ref a33, .ref a34, .int 0])), (a2, .inr (8, [.ref a35, .ref a36, .ref a37, .ref a38, .ref a39, .ref a40, .ref a41, .int 0]))] H := hP
  have hD : va_D A [(a0, .inr (4, [.ref a1, .ref a4, .ref a5, .ref a6, .ref a7, .ref a8, .ref a9, .int 100, .int 0, .int 0, .int (-1)])), (a5, .inr (8, [.ref a10, .ref a11, .ref a12, .ref a13, .ref a14, .ref a15, .ref a16, .int 0])), (a6, .inl (cI, 7, .inl (fun _ => 0))), (a1, .inr (7, [.int 100, .int 100, .int 0, .ref a17, .ref a18, .int 0, .ref a19, .ref a20, .ref a21, .ref a22, .ref a23, .ref a24, .ref a25, .ref a26, .ref a27])), (a26, .inr (8, [.ref a28, .ref a29, .ref a30, .ref a31, .ref a32, .ref a33, .ref a34, .int 0])), (a2, .inr (8, [.ref a35, .ref a36, .ref a37, .ref a38, .ref a39, .ref a40, .ref a41, .int 0]))] := hD
  refine lv_iinc (v := 5) (lv' := [(5, .int 5), (0, .ref a0), (1, .ref a1), (2, .ref a2), (3, .long 0)]) hx hb dX4_gather_59 hl (k := 0) rfl (by decide +kernel) (by decide) rfl (fun ls hl => ?_)
  refine lv_goto (tgt := 16) hx hb dX4_gather_62 (by decide) ?_
  refine lv_iload hx hb dX4_gather_16 (lv_at hl 0 rfl) ?_
  refine lv_bipush (v := 6) hx hb dX4_gather_18 (by decide) ?_
  refine lv_icmp_ge (tgt := 65) hx hb dX4_gather_20 (by decide) (fun c_ => absurd c_ (by decide +kernel)) (fun _ => ?_)
  refine lv_aload_n hx hb dX4_gather_23 rfl (lv_at hl 1 rfl) ?_
  refine k_get hC hK hP iX4 0 3 wf_X4_34 rfl (by decide) rfl rfl dX4_gather_24 ?_
  refine lv_iload hx hb dX4_gather_27 (lv_at hl 0 rfl) ?_
  refine lv_aload_n hx hb dX4_gather_29 rfl (lv_at hl 1 rfl) ?_
  refine k_get hC hK hP iX4 0 2 wf_X4_30 rfl (by decide) rfl rfl dX4_gather_30 ?_
  refine k_getN hC hN hK hP iX8 1 7 wf_X4_60 rfl (by decide) rfl rfl dX4_gather_33 ?_
  refine k_iastS hC hK hP hD hS 2 5 rfl (by decide +kernel) (by decide) (by decide +kernel) dX4_gather_36 (fun H locs hP hD hS => ?_)
  refine lv_aload_n hx hb dX4_gather_37 rfl (lv_at hl 1 rfl) ?_
  refine lv_aload_n hx hb dX4_gather_38 rfl (lv_at hl 2 rfl) ?_
  refine k_getN hC hN hK hP iX7 3 13 wf_X4_63 rfl (by decide) rfl rfl dX4_gather_39 ?_
  refine lv_lload_n hx hb dX4_gather_42 rfl (lv_at hl 4 rfl) ?_
  refine lv_iload hx hb dX4_gather_43 (lv_at hl 0 rfl) ?_
  refine k_cv (wr := [(a0, .inr (4, [.ref a1, .ref a4, .ref a5, .ref a6, .ref a7, .ref a8, .ref a9, .int 100, .int 0, .int 0, .int (-1)])), (a5, .inr (8, [.ref a10, .ref a11, .ref a12, .ref a13, .ref a14, .ref a15, .ref a16, .int 0])), (a6, .inl (cI, 7, .inl (fun _ => 0))), (a1, .inr (7, [.int 100, .int 100, .int 0, .ref a17, .ref a18, .int 0, .ref a19, .ref a20, .ref a21, .ref a22, .ref a23, .ref a24, .ref a25, .ref a26, .ref a27])), (a2, .inr (8, [.ref a35, .ref a36, .ref a37, .ref a38, .ref a39, .ref a40, .ref a41, .int 0]))]) (k_rV hC hN hK hP hD (c58_X4_gatherFrom l G cI cJ cB cZ a0 a26 a28 a29 a30 a31 a32 a33 a34) [4] rfl (by decide) mi_X4_gatherFrom in_X4_gatherFrom se_X4_gatherFrom wm_X4_66 4 0 rfl rfl rfl hl.1 rfl rfl (Nat.le_of_ble_eq_true rfl) ⟨(Nat.le_of_ble_eq_true rfl), (Nat.le_of_ble_eq_true rfl)⟩ dX4_gather_45 ⟨(Nat.le_of_ble_eq_true rfl), (Nat.le_of_ble_eq_true rfl)⟩) hP hD hS hA [4] [0, 1, 2, 3, 5] rfl rfl (by decide) (by decide) (fun u11 H locs hp hP hD hS => ?_)
  have hP : va_P G cl [(a0, .inr (4, [.ref a1, .ref a4, .ref a5, .ref a6, .ref a7, .ref a8, .ref a9, .int 100, .int 0, .int 0, .int (-1)])), (a5, .inr (8, [.ref a10, .ref a11, .ref a12, .ref a13, .ref a14, .ref a15, .ref a16, .int 0])), (a6, .inl (cI, 7, .inl (fun _ => 0))), (a1, .inr (7, [.int 100, .int 100, .int 0, .ref a17, .ref a18, .int 0, .ref a19, .ref a20, .ref a21, .ref a22, .ref a23, .ref a24, .ref a25, .ref a26, .ref a27])), (a2, .inr (8, [.ref a35, .ref a36, .ref a37, .ref a38, .ref a39, .ref a40, .ref a41, .int 0])), (a26, .inr (8, [.ref a28, .ref a29, .ref a30, .ref a31, .ref a32, .ref a33, .ref a34, .int 0]))] H := hP
  have hD : va_D A [(a0, .inr (4, [.ref a1, .ref a4, .ref a5, .ref a6, .ref a7, .ref a8, .ref a9, .int 100, .int 0, .int 0, .int (-1)])), (a5, .inr (8, [.ref a10, .ref a11, .ref a12, .ref a13, .ref a14, .ref a15, .ref a16, .int 0])), (a6, .inl (cI, 7, .inl (fun _ => 0))), (a1, .inr (7, [.int 100, .int 100, .int 0, .ref a17, .ref a18, .int 0, .ref a19, .ref a20, .ref a21, .ref a22, .ref a23, .ref a24, .ref a25, .ref a26, .ref a27])), (a2, .inr (8, [.ref a35, .ref a36, .ref a37, .ref a38, .ref a39, .ref a40, .ref a41, .int 0])), (a26, .inr (8, [.ref a28, .ref a29, .ref a30, .ref a31, .ref a32, .ref a33, .ref a34, .int 0]))] := hD
  refine lv_aload_n hx hb dX4_gather_48 rfl (lv_at hl 1 rfl) ?_
  refine lv_aload_n hx hb dX4_gather_49 rfl (lv_at hl 3 rfl) ?_
  refine lv_lload_n hx hb dX4_gather_50 rfl (lv_at hl 4 rfl) ?_
  refine lv_bipush (v := 16) hx hb dX4_gather_51 (by decide) ?_
  refine lv_lshr (v := 0) hx hb dX4_gather_53 (by decide +kernel) ?_
  refine lv_iload hx hb dX4_gather_54 (lv_at hl 0 rfl) ?_
  refine k_cv (wr := [(a0, .inr (4, [.ref a1, .ref a4, .ref a5, .ref a6, .ref a7, .ref a8, .ref a9, .int 100, .int 0, .int 0, .int (-1)])), (a5, .inr (8, [.ref a10, .ref a11, .ref a12, .ref a13, .ref a14, .ref a15, .ref a16, .int 0])), (a6, .inl (cI, 7, .inl (fun _ => 0))), (a1, .inr (7, [.int 100, .int 100, .int 0, .ref a17, .ref a18, .int 0, .ref a19, .ref a20, .ref a21, .ref a22, .ref a23, .ref a24, .ref a25, .ref a26, .ref a27])), (a26, .inr (8, [.ref a28, .ref a29, .ref a30, .ref a31, .ref a32, .ref a33, .ref a34, .int 0]))]) (k_rV hC hN hK hP hD (c58_X4_gatherFrom l G cI cJ cB cZ a0 a2 a35 a36 a37 a38 a39 a40 a41) [4] rfl (by decide) mi_X4_gatherFrom in_X4_gatherFrom se_X4_gatherFrom wm_X4_66 4 0 rfl rfl rfl hl.1 rfl rfl (Nat.le_of_ble_eq_true rfl) ⟨(Nat.le_of_ble_eq_true rfl), (Nat.le_of_ble_eq_true rfl)⟩ dX4_gather_56 ⟨(Nat.le_of_ble_eq_true rfl), (Nat.le_of_ble_eq_true rfl)⟩) hP hD hS hA [4] [0, 1, 2, 3, 5] rfl rfl (by decide) (by decide) (fun u12 H locs hp hP hD hS => ?_)
  have hP : va_P G cl [(a0, .inr (4, [.ref a1, .ref a4, .ref a5, .ref a6, .ref a7, .ref a8, .ref a9, .int 100, .int 0, .int 0, .int (-1)])), (a5, .inr (8, [.ref a10, .ref a11, .ref a12, .ref a13, .ref a14, .ref a15, .ref a16, .int 0])), (a6, .inl (cI, 7, .inl (fun _ => 0))), (a1, .inr (7, [.int 100, .int 100, .int 0, .ref a17, .ref a18, .int 0, .ref a19, .ref a20, .ref a21, .ref a22, .ref a23, .ref a24, .ref a25, .ref a26, .ref a27])), (a26, .inr (8, [.ref a28, .ref a29, .ref a30, .ref a31, .ref a32, .ref a33, .ref a34, .int 0])), (a2, .inr (8, [.ref a35, .ref a36, .ref a37, .ref a38, .ref a39, .ref a40, .ref a41, .int 0]))] H := hP
  have hD : va_D A [(a0, .inr (4, [.ref a1, .ref a4, .ref a5, .ref a6, .ref a7, .ref a8, .ref a9, .int 100, .int 0, .int 0, .int (-1)])), (a5, .inr (8, [.ref a10, .ref a11, .ref a12, .ref a13, .ref a14, .ref a15, .ref a16, .int 0])), (a6, .inl (cI, 7, .inl (fun _ => 0))), (a1, .inr (7, [.int 100, .int 100, .int 0, .ref a17, .ref a18, .int 0, .ref a19, .ref a20, .ref a21, .ref a22, .ref a23, .ref a24, .ref a25, .ref a26, .ref a27])), (a26, .inr (8, [.ref a28, .ref a29, .ref a30, .ref a31, .ref a32, .ref a33, .ref a34, .int 0])), (a2, .inr (8, [.ref a35, .ref a36, .ref a37, .ref a38, .ref a39, .ref a40, .ref a41, .int 0]))] := hD
  refine lv_iinc (v := 6) (lv' := [(5, .int 6), (0, .ref a0), (1, .ref a1), (2, .ref a2), (3, .long 0)]) hx hb dX4_gather_59 hl (k := 0) rfl (by decide +kernel) (by decide) rfl (fun ls hl => ?_)
  refine lv_goto (tgt := 16) hx hb dX4_gather_62 (by decide) ?_
  refine lv_iload hx hb dX4_gather_16 (lv_at hl 0 rfl) ?_
  refine lv_bipush (v := 6) hx hb dX4_gather_18 (by decide) ?_
  refine lv_icmp_ge (tgt := 65) hx hb dX4_gather_20 (by decide) (fun _ => ?_) (fun c_ => absurd (by decide +kernel) c_)
  refine lv_aload_n hx hb dX4_gather_65 rfl (lv_at hl 1 rfl) ?_
  refine k_get hC hK hP iX4 0 3 wf_X4_34 rfl (by decide) rfl rfl dX4_gather_66 ?_
  refine lv_bipush (v := 6) hx hb dX4_gather_69 (by decide) ?_
  refine lv_aload_n hx hb dX4_gather_71 rfl (lv_at hl 1 rfl) ?_
  refine k_get hC hK hP iX4 0 2 wf_X4_30 rfl (by decide) rfl rfl dX4_gather_72 ?_
  refine k_getN hC hN hK hP iX8 1 7 wf_X4_60 rfl (by decide) rfl rfl dX4_gather_75 ?_
  refine k_iastS hC hK hP hD hS 2 6 rfl (by decide +kernel) (by decide) (by decide +kernel) dX4_gather_78 (fun H locs hP hD hS => ?_)
  exact k_vret hC hr hlk hK hP hD hS () [0, 1, 2, 3, 4, 5] rfl (by decide) trivial (Nat.le_of_ble_eq_true rfl) (Nat.le_of_ble_eq_true rfl) dX4_gather_79
theorem dX4_setSpans_0 : decode cX4_setSpans 0 = .ok (.iconst 1, 1) := by decide +kernel
theorem dX4_setSpans_1 : decode cX4_setSpans 1 = .ok (.istore_n 3, 1) := by decide +kernel
theorem dX4_setSpans_2 : decode cX4_setSpans 2 = .ok (.iconst 0, 1) := by decide +kernel
theorem dX4_setSpans_3 : decode cX4_setSpans 3 = .ok (.istore 4, 2) := by decide +kernel
theorem dX4_setSpans_5 : decode cX4_setSpans 5 = .ok (.iload 4, 2) := by decide +kernel
theorem dX4_setSpans_7 : decode cX4_setSpans 7 = .ok (.aload_n 0, 1) := by decide +kernel
theorem dX4_setSpans_8 : decode cX4_setSpans 8 = .ok (.getfield 12, 3) := by decide +kernel
theorem dX4_setSpans_11 : decode cX4_setSpans 11 = .ok (.getfield 109, 3) := by decide +kernel
set_option maxRecDepth 100000 in
theorem wf_X4_109 : Cond.fieldLinkNest RX4 109 "StoneTrust$Village" "stones" "I" "StoneTrust" ∈ nests := nm_ (List.mem_of_getElem? (i := 240) (by decide +kernel)) rfl
theorem dX4_setSpans_14 : decode cX4_setSpans 14 = .ok (.if_icmp .ge 90, 3) := by decide +kernel
theorem dX4_setSpans_104 : decode cX4_setSpans 104 = .ok (.iload_n 3, 1) := by decide +kernel
theorem dX4_setSpans_105 : decode cX4_setSpans 105 = .ok (.ireturn, 1) := by decide +kernel
set_option maxHeartbeats 4000000 in
set_option maxRecDepth 100000 in
theorem c60_X4_setSpans (l : Launch) (G : va_G) (cI cJ cB cZ : ClassId) (a0 a1 a2 a3 a4 a5 a6 a7 a8 a9 a10 a11 a12 a13 a14 a15 a16 a17 a18 : Nat) : Con l G (TY cI cJ cB cZ) yX4_setSpans cX4_setSpans 6 (some .boolean) ({ frames := 0, cells := 0, slots := 0, locals := 0 } : Room) [.ref a0, .int 16, .int 16] [(a0, .inr (4, [.ref a1, .ref a2, .ref a3, .ref a4, .ref a5, .ref a6, .ref a7, .int 100, .int 0, .int 0, .int (-1)])), (a1, .inr (7, [.int 100, .int 100, .int 0, .ref a8, .ref a9, .int 0, .ref a10, .ref a11, .ref a12, .ref a13, .ref a14, .ref a15, .ref a16, .ref a17, .ref a18]))] (QI G (TY cI cJ cB cZ) (fun (r : Int32) (u : Unit) => r = 1) (fun u : Unit => [(a0, .inr (4, [.ref a1, .ref a2, .ref a3, .ref a4, .ref a5, .ref a6, .ref a7, .int 100, .int 0, .int 0, .int (-1)])), (a1, .inr (7, [.int 100, .int 100, .int 0, .ref a8, .ref a9, .int 0, .ref a10, .ref a11, .ref a12, .ref a13, .ref a14, .ref a15, .ref a16, .ref a17, .ref a18]))])) := by
  refine k_met (by decide) (Nat.le_of_ble_eq_true rfl) ?_
  intro p e s m below meth c A ls hC hr hlk hnm hN hK hA hP hD hS hl
  have hl : lv_has ls 6 [(0, .ref a0), (1, .int 16), (2, .int 16)] := hl
  obtain ⟨hx, hb, hml, hown, hts⟩ := id hC
  refine lv_iconst (v := 1) hx hb dX4_setSpans_0 (by decide) ?_
  refine lv_istore_n (lv' := [(3, .int 1), (0, .ref a0), (1, .int 16), (2, .int 16)]) hx hb dX4_setSpans_1 rfl hl (by decide) rfl (fun ls hl => ?_)
  refine lv_iconst (v := 0) hx hb dX4_setSpans_2 (by decide) ?_
  refine lv_istore (lv' := [(4, .int 0), (3, .int 1), (0, .ref a0), (1, .int 16), (2, .int 16)]) hx hb dX4_setSpans_3 hl (by decide) rfl (fun ls hl => ?_)
  refine lv_iload hx hb dX4_setSpans_5 (lv_at hl 0 rfl) ?_
  refine lv_aload_n hx hb dX4_setSpans_7 rfl (lv_at hl 2 rfl) ?_
  refine k_get hC hK hP iX4 0 0 wf_X4_12 rfl (by decide) rfl rfl dX4_setSpans_8 ?_
  refine k_getN hC hN hK hP iX7 1 5 wf_X4_109 rfl (by decide) rfl rfl dX4_setSpans_11 ?_
  refine lv_icmp_ge (tgt := 104) hx hb dX4_setSpans_14 (by decide) (fun _ => ?_) (fun c_ => absurd (by decide +kernel) c_)
  refine lv_iload_n hx hb dX4_setSpans_104 rfl (lv_at hl 1 rfl) ?_
  exact k_zret hC hr hlk hK hP hD hS () [0, 1] rfl (by decide) rfl rfl (Nat.le_of_ble_eq_true rfl) (Nat.le_of_ble_eq_true rfl) dX4_setSpans_105
theorem dX0_head_0 : decode cX0_head 0 = .ok (.iload_n 0, 1) := by decide +kernel
theorem dX0_head_1 : decode cX0_head 1 = .ok (.i2l, 1) := by decide +kernel
theorem dX0_head_2 : decode cX0_head 2 = .ok (.bipush 54, 2) := by decide +kernel
theorem dX0_head_4 : decode cX0_head 4 = .ok (.lshl, 1) := by decide +kernel
theorem dX0_head_5 : decode cX0_head 5 = .ok (.iload_n 1, 1) := by decide +kernel
theorem dX0_head_6 : decode cX0_head 6 = .ok (.i2l, 1) := by decide +kernel
theorem dX0_head_7 : decode cX0_head 7 = .ok (.bipush 57, 2) := by decide +kernel
theorem dX0_head_9 : decode cX0_head 9 = .ok (.lshl, 1) := by decide +kernel
theorem dX0_head_10 : decode cX0_head 10 = .ok (.lor, 1) := by decide +kernel
theorem dX0_head_11 : decode cX0_head 11 = .ok (.iload_n 2, 1) := by decide +kernel
theorem dX0_head_12 : decode cX0_head 12 = .ok (.i2l, 1) := by decide +kernel
theorem dX0_head_13 : decode cX0_head 13 = .ok (.bipush 60, 2) := by decide +kernel
theorem dX0_head_15 : decode cX0_head 15 = .ok (.lshl, 1) := by decide +kernel
theorem dX0_head_16 : decode cX0_head 16 = .ok (.lor, 1) := by decide +kernel
theorem dX0_head_17 : decode cX0_head 17 = .ok (.lreturn, 1) := by decide +kernel
set_option maxHeartbeats 4000000 in
set_option maxRecDepth 100000 in
theorem c61_X0_head (l : Launch) (G : va_G) (cI cJ cB cZ : ClassId) : Con l G (TY cI cJ cB cZ) yX0_head cX0_head 3 (some .long) ({ frames := 0, cells := 0, slots := 0, locals := 0 } : Room) [.int 0, .int 0, .int 0] [] (QL G (TY cI cJ cB cZ) (fun (r : Int64) (u : Unit) => r = 0) (fun u : Unit => [])) := by
  refine k_met (by decide) (Nat.le_of_ble_eq_true rfl) ?_
  intro p e s m below meth c A ls hC hr hlk hnm hN hK hA hP hD hS hl
  have hl : lv_has ls 3 [(0, .int 0), (1, .int 0), (2, .int 0)] := hl
  obtain ⟨hx, hb, hml, hown, hts⟩ := id hC
  refine lv_iload_n hx hb dX0_head_0 rfl (lv_at hl 0 rfl) ?_
  refine lv_i2l (v := 0) hx hb dX0_head_1 (by decide +kernel) ?_
  refine lv_bipush (v := 54) hx hb dX0_head_2 (by decide) ?_
  refine lv_lshl (v := 0) hx hb dX0_head_4 (by decide +kernel) ?_
  refine lv_iload_n hx hb dX0_head_5 rfl (lv_at hl 1 rfl) ?_
  refine lv_i2l (v := 0) hx hb dX0_head_6 (by decide +kernel) ?_
  refine lv_bipush (v := 57) hx hb dX0_head_7 (by decide) ?_
  refine lv_lshl (v := 0) hx hb dX0_head_9 (by decide +kernel) ?_
  refine lv_lor hx hb dX0_head_10 ?_
  refine k_l 0 (by decide +kernel) ?_
  refine lv_iload_n hx hb dX0_head_11 rfl (lv_at hl 2 rfl) ?_
  refine lv_i2l (v := 0) hx hb dX0_head_12 (by decide +kernel) ?_
  refine lv_bipush (v := 60) hx hb dX0_head_13 (by decide) ?_
  refine lv_lshl (v := 0) hx hb dX0_head_15 (by decide +kernel) ?_
  refine lv_lor hx hb dX0_head_16 ?_
  refine k_l 0 (by decide +kernel) ?_
  exact k_lret hC hr hlk hK hP hD hS () [] rfl (by decide) rfl (Nat.le_of_ble_eq_true rfl) (Nat.le_of_ble_eq_true rfl) dX0_head_17
theorem dX0_put_0 : decode cX0_put 0 = .ok (.aload_n 0, 1) := by decide +kernel
theorem dX0_put_1 : decode cX0_put 1 = .ok (.getfield 15, 3) := by decide +kernel
theorem dX0_put_4 : decode cX0_put 4 = .ok (.aload_n 0, 1) := by decide +kernel
theorem dX0_put_5 : decode cX0_put 5 = .ok (.getfield 11, 3) := by decide +kernel
theorem dX0_put_8 : decode cX0_put 8 = .ok (.arraylength, 1) := by decide +kernel
theorem dX0_put_9 : decode cX0_put 9 = .ok (.if_icmp .lt 26, 3) := by decide +kernel
theorem dX0_put_35 : decode cX0_put 35 = .ok (.aload_n 0, 1) := by decide +kernel
theorem dX0_put_36 : decode cX0_put 36 = .ok (.getfield 15, 3) := by decide +kernel
theorem dX0_put_39 : decode cX0_put 39 = .ok (.aload_n 0, 1) := by decide +kernel
theorem dX0_put_40 : decode cX0_put 40 = .ok (.getfield 11, 3) := by decide +kernel
theorem dX0_put_43 : decode cX0_put 43 = .ok (.arraylength, 1) := by decide +kernel
theorem dX0_put_44 : decode cX0_put 44 = .ok (.if_icmp .ge 23, 3) := by decide +kernel
theorem dX0_put_47 : decode cX0_put 47 = .ok (.aload_n 0, 1) := by decide +kernel
theorem dX0_put_48 : decode cX0_put 48 = .ok (.getfield 11, 3) := by decide +kernel
theorem dX0_put_51 : decode cX0_put 51 = .ok (.aload_n 0, 1) := by decide +kernel
theorem dX0_put_52 : decode cX0_put 52 = .ok (.getfield 15, 3) := by decide +kernel
theorem dX0_put_55 : decode cX0_put 55 = .ok (.lload_n 1, 1) := by decide +kernel
theorem dX0_put_56 : decode cX0_put 56 = .ok (.lastore, 1) := by decide +kernel
theorem dX0_put_57 : decode cX0_put 57 = .ok (.aload_n 0, 1) := by decide +kernel
theorem dX0_put_58 : decode cX0_put 58 = .ok (.dup, 1) := by decide +kernel
theorem dX0_put_59 : decode cX0_put 59 = .ok (.getfield 15, 3) := by decide +kernel
theorem dX0_put_62 : decode cX0_put 62 = .ok (.iconst 1, 1) := by decide +kernel
theorem dX0_put_63 : decode cX0_put 63 = .ok (.iadd, 1) := by decide +kernel
theorem dX0_put_64 : decode cX0_put 64 = .ok (.putfield 15, 3) := by decide +kernel
theorem dX0_put_67 : decode cX0_put 67 = .ok (.return_, 1) := by decide +kernel
set_option maxHeartbeats 4000000 in
set_option maxRecDepth 100000 in
theorem c62_X0_put (l : Launch) (G : va_G) (cI cJ cB cZ : ClassId) (a0 a1 : Nat) : Con l G (TY cI cJ cB cZ) yX0_put cX0_put 3 none ({ frames := 0, cells := 0, slots := 0, locals := 0 } : Room) [.ref a0, .long 0] [(a0, .inr (0, [.ref a1, .int 0, .int 1, .long 0, .int 1, .int 0, .long 0])), (a1, .inl (cJ, 256, .inr (.inl (fun _ => 0))))] (QV G (TY cI cJ cB cZ) (fun u : Unit => True) (fun u : Unit => [(a0, .inr (0, [.ref a1, .int 1, .int 1, .long 0, .int 1, .int 0, .long 0])), (a1, .inl (cJ, 256, .inr (.inl (vp_updL (fun _ => 0) 0 0))))])) := by
  refine k_met (by decide) (Nat.le_of_ble_eq_true rfl) ?_
  intro p e s m below meth c A ls hC hr hlk hnm hN hK hA hP hD hS hl
  have hl : lv_has ls 3 [(0, .ref a0), (1, .long 0)] := hl
  obtain ⟨hx, hb, hml, hown, hts⟩ := id hC
  refine lv_aload_n hx hb dX0_put_0 rfl (lv_at hl 0 rfl) ?_
  refine k_get hC hK hP iX0 0 1 wf_X0_15 rfl (by decide) rfl rfl dX0_put_1 ?_
  refine lv_aload_n hx hb dX0_put_4 rfl (lv_at hl 0 rfl) ?_
  refine k_get hC hK hP iX0 0 0 wf_X0_11 rfl (by decide) rfl rfl dX0_put_5 ?_
  refine k_alen hC hK hP 1 1 256 rfl rfl (by decide +kernel) dX0_put_8 ?_
  refine lv_icmp_lt (tgt := 35) hx hb dX0_put_9 (by decide) (fun _ => ?_) (fun c_ => absurd (by decide +kernel) c_)
  refine lv_aload_n hx hb dX0_put_35 rfl (lv_at hl 0 rfl) ?_
  refine k_get hC hK hP iX0 0 1 wf_X0_15 rfl (by decide) rfl rfl dX0_put_36 ?_
  refine lv_aload_n hx hb dX0_put_39 rfl (lv_at hl 0 rfl) ?_
  refine k_get hC hK hP iX0 0 0 wf_X0_11 rfl (by decide) rfl rfl dX0_put_40 ?_
  refine k_alen hC hK hP 1 1 256 rfl rfl (by decide +kernel) dX0_put_43 ?_
  refine lv_icmp_ge (tgt := 67) hx hb dX0_put_44 (by decide) (fun c_ => absurd c_ (by decide +kernel)) (fun _ => ?_)
  refine lv_aload_n hx hb dX0_put_47 rfl (lv_at hl 0 rfl) ?_
  refine k_get hC hK hP iX0 0 0 wf_X0_11 rfl (by decide) rfl rfl dX0_put_48 ?_
  refine lv_aload_n hx hb dX0_put_51 rfl (lv_at hl 0 rfl) ?_
  refine k_get hC hK hP iX0 0 1 wf_X0_15 rfl (by decide) rfl rfl dX0_put_52 ?_
  refine lv_lload_n hx hb dX0_put_55 rfl (lv_at hl 1 rfl) ?_
  refine k_last hC hK hP hD hS 1 0 rfl (by decide +kernel) (by decide) dX0_put_56 (fun H locs hP hD hS => ?_)
  have hP : va_P G cl [(a0, .inr (0, [.ref a1, .int 0, .int 1, .long 0, .int 1, .int 0, .long 0])), (a1, .inl (cJ, 256, .inr (.inl (vp_updL (fun _ => 0) 0 0))))] H := hP
  have hD : va_D A [(a0, .inr (0, [.ref a1, .int 0, .int 1, .long 0, .int 1, .int 0, .long 0])), (a1, .inl (cJ, 256, .inr (.inl (vp_updL (fun _ => 0) 0 0))))] := hD
  refine lv_aload_n hx hb dX0_put_57 rfl (lv_at hl 0 rfl) ?_
  refine lv_dup hx hb dX0_put_58 rfl ?_
  refine k_get hC hK hP iX0 0 1 wf_X0_15 rfl (by decide) rfl rfl dX0_put_59 ?_
  refine lv_iconst (v := 1) hx hb dX0_put_62 (by decide) ?_
  refine lv_iadd hx hb dX0_put_63 ?_
  refine k_i 1 (by decide +kernel) ?_
  refine k_put hC hK hP hD hS iX0 tyX0_ok nmX0 0 1 wf_X0_15 rfl (by decide) rfl rfl rfl rfl (Nat.le_of_ble_eq_true rfl) dX0_put_64 (fun H locs hP hD hS => ?_)
  have hP : va_P G cl [(a0, .inr (0, [.ref a1, .int 1, .int 1, .long 0, .int 1, .int 0, .long 0])), (a1, .inl (cJ, 256, .inr (.inl (vp_updL (fun _ => 0) 0 0))))] H := hP
  have hD : va_D A [(a0, .inr (0, [.ref a1, .int 1, .int 1, .long 0, .int 1, .int 0, .long 0])), (a1, .inl (cJ, 256, .inr (.inl (vp_updL (fun _ => 0) 0 0))))] := hD
  exact k_vret hC hr hlk hK hP hD hS () [0, 1] rfl (by decide) trivial (Nat.le_of_ble_eq_true rfl) (Nat.le_of_ble_eq_true rfl) dX0_put_67
theorem dX4_lay_0 : decode cX4_lay 0 = .ok (.iload_n 1, 1) := by decide +kernel
theorem dX4_lay_1 : decode cX4_lay 1 = .ok (.aload_n 0, 1) := by decide +kernel
theorem dX4_lay_2 : decode cX4_lay 2 = .ok (.getfield 12, 3) := by decide +kernel
theorem dX4_lay_5 : decode cX4_lay 5 = .ok (.getfield 109, 3) := by decide +kernel
theorem dX4_lay_8 : decode cX4_lay 8 = .ok (.if_icmp .ge 9, 3) := by decide +kernel
theorem dX4_lay_17 : decode cX4_lay 17 = .ok (.aload_n 0, 1) := by decide +kernel
theorem dX4_lay_18 : decode cX4_lay 18 = .ok (.getfield 21, 3) := by decide +kernel
theorem dX4_lay_21 : decode cX4_lay 21 = .ok (.lload_n 2, 1) := by decide +kernel
theorem dX4_lay_22 : decode cX4_lay 22 = .ok (.invokevirtual 122, 3) := by decide +kernel
set_option maxRecDepth 100000 in
theorem wm_X4_122 : Cond.methodLink RX4 122 yX0_put ∈ gw := gm (List.mem_of_getElem? (i := 885) (by decide +kernel)) rfl
set_option maxRecDepth 100000 in
theorem mi_X0_put : MI yX0_put cX0_put 3 none 1 := ⟨gm (List.mem_of_getElem? (i := 888) rfl) rfl, gm (List.mem_of_getElem? (i := 121) (by decide +kernel)) rfl, by decide, by decide, by decide +kernel⟩
set_option maxRecDepth 100000 in
theorem in_X0_put : Cond.instanceMethod yX0_put ∈ gw := gm (List.mem_of_getElem? (i := 886) (by decide +kernel)) rfl
set_option maxRecDepth 100000 in
theorem se_X0_put : Cond.selects yX0_put.cls yX0_put yX0_put ∈ gw := gm (List.mem_of_getElem? (i := 887) (by decide +kernel)) rfl
theorem dX4_lay_25 : decode cX4_lay 25 = .ok (.return_, 1) := by decide +kernel
set_option maxHeartbeats 4000000 in
set_option maxRecDepth 100000 in
theorem c63_X4_lay (l : Launch) (G : va_G) (cI cJ cB cZ : ClassId) (a0 a1 a2 a3 a4 a5 a6 a7 a8 a9 a10 a11 a12 a13 a14 a15 a16 a17 a18 a19 : Nat) : Con l G (TY cI cJ cB cZ) yX4_lay cX4_lay 6 none ({ frames := 1, cells := 0, slots := 0, locals := 22 } : Room) [.ref a0, .int 0, .long 0] [(a0, .inr (4, [.ref a1, .ref a2, .ref a3, .ref a4, .ref a5, .ref a6, .ref a7, .int 100, .int 0, .int 0, .int (-1)])), (a1, .inr (7, [.int 100, .int 100, .int 0, .ref a8, .ref a9, .int 0, .ref a10, .ref a11, .ref a12, .ref a13, .ref a14, .ref a15, .ref a16, .ref a17, .ref a18])), (a2, .inr (0, [.ref a19, .int 0, .int 1, .long 0, .int 1, .int 0, .long 0])), (a19, .inl (cJ, 256, .inr (.inl (fun _ => 0))))] (QV G (TY cI cJ cB cZ) (fun u : Unit => True) (fun u : Unit => [(a0, .inr (4, [.ref a1, .ref a2, .ref a3, .ref a4, .ref a5, .ref a6, .ref a7, .int 100, .int 0, .int 0, .int (-1)])), (a1, .inr (7, [.int 100, .int 100, .int 0, .ref a8, .ref a9, .int 0, .ref a10, .ref a11, .ref a12, .ref a13, .ref a14, .ref a15, .ref a16, .ref a17, .ref a18])), (a2, .inr (0, [.ref a19, .int 1, .int 1, .long 0, .int 1, .int 0, .long 0])), (a19, .inl (cJ, 256, .inr (.inl (vp_updL (fun _ => 0) 0 0))))])) := by
  refine k_met (by decide) (Nat.le_of_ble_eq_true rfl) ?_
  intro p e s m below meth c A ls hC hr hlk hnm hN hK hA hP hD hS hl
  have hl : lv_has ls 6 [(0, .ref a0), (1, .int 0), (2, .long 0)] := hl
  obtain ⟨hx, hb, hml, hown, hts⟩ := id hC
  refine lv_iload_n hx hb dX4_lay_0 rfl (lv_at hl 1 rfl) ?_
  refine lv_aload_n hx hb dX4_lay_1 rfl (lv_at hl 0 rfl) ?_
  refine k_get hC hK hP iX4 0 0 wf_X4_12 rfl (by decide) rfl rfl dX4_lay_2 ?_
  refine k_getN hC hN hK hP iX7 1 5 wf_X4_109 rfl (by decide) rfl rfl dX4_lay_5 ?_
  refine lv_icmp_ge (tgt := 17) hx hb dX4_lay_8 (by decide) (fun _ => ?_) (fun c_ => absurd (by decide +kernel) c_)
  refine lv_aload_n hx hb dX4_lay_17 rfl (lv_at hl 0 rfl) ?_
  refine k_get hC hK hP iX4 0 1 wf_X4_21 rfl (by decide) rfl rfl dX4_lay_18 ?_
  refine lv_lload_n hx hb dX4_lay_21 rfl (lv_at hl 2 rfl) ?_
  refine k_cv (wr := [(a0, .inr (4, [.ref a1, .ref a2, .ref a3, .ref a4, .ref a5, .ref a6, .ref a7, .int 100, .int 0, .int 0, .int (-1)])), (a1, .inr (7, [.int 100, .int 100, .int 0, .ref a8, .ref a9, .int 0, .ref a10, .ref a11, .ref a12, .ref a13, .ref a14, .ref a15, .ref a16, .ref a17, .ref a18]))]) (k_rV hC hN hK hP hD (c62_X0_put l G cI cJ cB cZ a2 a19) [2, 3] rfl (by decide) mi_X0_put in_X0_put se_X0_put wm_X4_122 0 2 rfl rfl rfl hl.1 rfl rfl (Nat.le_of_ble_eq_true rfl) ⟨(Nat.le_of_ble_eq_true rfl), (Nat.le_of_ble_eq_true rfl)⟩ dX4_lay_22 ⟨(Nat.le_of_ble_eq_true rfl), (Nat.le_of_ble_eq_true rfl)⟩) hP hD hS hA [2, 3] [0, 1] rfl rfl (by decide) (by decide) (fun u1 H locs hp hP hD hS => ?_)
  have hP : va_P G cl [(a0, .inr (4, [.ref a1, .ref a2, .ref a3, .ref a4, .ref a5, .ref a6, .ref a7, .int 100, .int 0, .int 0, .int (-1)])), (a1, .inr (7, [.int 100, .int 100, .int 0, .ref a8, .ref a9, .int 0, .ref a10, .ref a11, .ref a12, .ref a13, .ref a14, .ref a15, .ref a16, .ref a17, .ref a18])), (a2, .inr (0, [.ref a19, .int 1, .int 1, .long 0, .int 1, .int 0, .long 0])), (a19, .inl (cJ, 256, .inr (.inl (vp_updL (fun _ => 0) 0 0))))] H := hP
  have hD : va_D A [(a0, .inr (4, [.ref a1, .ref a2, .ref a3, .ref a4, .ref a5, .ref a6, .ref a7, .int 100, .int 0, .int 0, .int (-1)])), (a1, .inr (7, [.int 100, .int 100, .int 0, .ref a8, .ref a9, .int 0, .ref a10, .ref a11, .ref a12, .ref a13, .ref a14, .ref a15, .ref a16, .ref a17, .ref a18])), (a2, .inr (0, [.ref a19, .int 1, .int 1, .long 0, .int 1, .int 0, .long 0])), (a19, .inl (cJ, 256, .inr (.inl (vp_updL (fun _ => 0) 0 0))))] := hD
  exact k_vret hC hr hlk hK hP hD hS () [0, 1, 2, 3] rfl (by decide) trivial (Nat.le_of_ble_eq_true rfl) (Nat.le_of_ble_eq_true rfl) dX4_lay_25
theorem dX4_goThrough_0 : decode cX4_goThrough 0 = .ok (.aload_n 0, 1) := by decide +kernel
theorem dX4_goThrough_1 : decode cX4_goThrough 1 = .ok (.iconst (-1), 1) := by decide +kernel
theorem dX4_goThrough_2 : decode cX4_goThrough 2 = .ok (.putfield 57, 3) := by decide +kernel
theorem dX4_goThrough_5 : decode cX4_goThrough 5 = .ok (.aload_n 0, 1) := by decide +kernel
theorem dX4_goThrough_6 : decode cX4_goThrough 6 = .ok (.getfield 12, 3) := by decide +kernel
theorem dX4_goThrough_9 : decode cX4_goThrough 9 = .ok (.getfield 81, 3) := by decide +kernel
set_option maxRecDepth 100000 in
theorem wf_X4_81 : Cond.fieldLinkNest RX4 81 "StoneTrust$Village" "armLow" "I" "StoneTrust" ∈ nests := nm_ (List.mem_of_getElem? (i := 224) (by decide +kernel)) rfl
theorem dX4_goThrough_12 : decode cX4_goThrough 12 = .ok (.istore_n 2, 1) := by decide +kernel
theorem dX4_goThrough_13 : decode cX4_goThrough 13 = .ok (.iload_n 2, 1) := by decide +kernel
theorem dX4_goThrough_14 : decode cX4_goThrough 14 = .ok (.aload_n 0, 1) := by decide +kernel
theorem dX4_goThrough_15 : decode cX4_goThrough 15 = .ok (.getfield 12, 3) := by decide +kernel
theorem dX4_goThrough_18 : decode cX4_goThrough 18 = .ok (.getfield 84, 3) := by decide +kernel
set_option maxRecDepth 100000 in
theorem wf_X4_84 : Cond.fieldLinkNest RX4 84 "StoneTrust$Village" "armHigh" "I" "StoneTrust" ∈ nests := nm_ (List.mem_of_getElem? (i := 227) (by decide +kernel)) rfl
theorem dX4_goThrough_21 : decode cX4_goThrough 21 = .ok (.if_icmp .gt 140, 3) := by decide +kernel
theorem dX4_goThrough_24 : decode cX4_goThrough 24 = .ok (.aload_n 0, 1) := by decide +kernel
theorem dX4_goThrough_25 : decode cX4_goThrough 25 = .ok (.iload_n 2, 1) := by decide +kernel
theorem dX4_goThrough_26 : decode cX4_goThrough 26 = .ok (.putfield 47, 3) := by decide +kernel
theorem dX4_goThrough_29 : decode cX4_goThrough 29 = .ok (.aload_n 0, 1) := by decide +kernel
theorem dX4_goThrough_30 : decode cX4_goThrough 30 = .ok (.getfield 12, 3) := by decide +kernel
theorem dX4_goThrough_33 : decode cX4_goThrough 33 = .ok (.getfield 87, 3) := by decide +kernel
set_option maxRecDepth 100000 in
theorem wf_X4_87 : Cond.fieldLinkNest RX4 87 "StoneTrust$Village" "poundLow" "[I" "StoneTrust" ∈ nests := nm_ (List.mem_of_getElem? (i := 233) (by decide +kernel)) rfl
theorem dX4_goThrough_36 : decode cX4_goThrough 36 = .ok (.iconst 0, 1) := by decide +kernel
theorem dX4_goThrough_37 : decode cX4_goThrough 37 = .ok (.iaload, 1) := by decide +kernel
theorem dX4_goThrough_38 : decode cX4_goThrough 38 = .ok (.istore_n 3, 1) := by decide +kernel
theorem dX4_goThrough_39 : decode cX4_goThrough 39 = .ok (.iload_n 3, 1) := by decide +kernel
theorem dX4_goThrough_40 : decode cX4_goThrough 40 = .ok (.aload_n 0, 1) := by decide +kernel
theorem dX4_goThrough_41 : decode cX4_goThrough 41 = .ok (.getfield 12, 3) := by decide +kernel
theorem dX4_goThrough_44 : decode cX4_goThrough 44 = .ok (.getfield 90, 3) := by decide +kernel
set_option maxRecDepth 100000 in
theorem wf_X4_90 : Cond.fieldLinkNest RX4 90 "StoneTrust$Village" "poundHigh" "[I" "StoneTrust" ∈ nests := nm_ (List.mem_of_getElem? (i := 236) (by decide +kernel)) rfl
theorem dX4_goThrough_47 : decode cX4_goThrough 47 = .ok (.iconst 0, 1) := by decide +kernel
theorem dX4_goThrough_48 : decode cX4_goThrough 48 = .ok (.iaload, 1) := by decide +kernel
theorem dX4_goThrough_49 : decode cX4_goThrough 49 = .ok (.if_icmp .gt 106, 3) := by decide +kernel
theorem dX4_goThrough_52 : decode cX4_goThrough 52 = .ok (.aload_n 0, 1) := by decide +kernel
theorem dX4_goThrough_53 : decode cX4_goThrough 53 = .ok (.getfield 12, 3) := by decide +kernel
theorem dX4_goThrough_56 : decode cX4_goThrough 56 = .ok (.getfield 87, 3) := by decide +kernel
theorem dX4_goThrough_59 : decode cX4_goThrough 59 = .ok (.iconst 1, 1) := by decide +kernel
theorem dX4_goThrough_60 : decode cX4_goThrough 60 = .ok (.iaload, 1) := by decide +kernel
theorem dX4_goThrough_61 : decode cX4_goThrough 61 = .ok (.istore 4, 2) := by decide +kernel
theorem dX4_goThrough_63 : decode cX4_goThrough 63 = .ok (.iload 4, 2) := by decide +kernel
theorem dX4_goThrough_65 : decode cX4_goThrough 65 = .ok (.aload_n 0, 1) := by decide +kernel
theorem dX4_goThrough_66 : decode cX4_goThrough 66 = .ok (.getfield 12, 3) := by decide +kernel
theorem dX4_goThrough_69 : decode cX4_goThrough 69 = .ok (.getfield 90, 3) := by decide +kernel
theorem dX4_goThrough_72 : decode cX4_goThrough 72 = .ok (.iconst 1, 1) := by decide +kernel
theorem dX4_goThrough_73 : decode cX4_goThrough 73 = .ok (.iaload, 1) := by decide +kernel
theorem dX4_goThrough_74 : decode cX4_goThrough 74 = .ok (.if_icmp .gt 75, 3) := by decide +kernel
theorem dX4_goThrough_77 : decode cX4_goThrough 77 = .ok (.aload_n 0, 1) := by decide +kernel
theorem dX4_goThrough_78 : decode cX4_goThrough 78 = .ok (.iload_n 3, 1) := by decide +kernel
theorem dX4_goThrough_79 : decode cX4_goThrough 79 = .ok (.iload 4, 2) := by decide +kernel
theorem dX4_goThrough_81 : decode cX4_goThrough 81 = .ok (.invokevirtual 93, 3) := by decide +kernel
set_option maxRecDepth 100000 in
theorem wm_X4_93 : Cond.methodLink RX4 93 yX4_setSpans ∈ gw := gm (List.mem_of_getElem? (i := 832) (by decide +kernel)) rfl
set_option maxRecDepth 100000 in
theorem mi_X4_setSpans : MI yX4_setSpans cX4_setSpans 6 (some .boolean) 2 := ⟨gm (List.mem_of_getElem? (i := 835) rfl) rfl, gm (List.mem_of_getElem? (i := 120) (by decide +kernel)) rfl, by decide, by decide, by decide +kernel⟩
set_option maxRecDepth 100000 in
theorem in_X4_setSpans : Cond.instanceMethod yX4_setSpans ∈ gw := gm (List.mem_of_getElem? (i := 834) (by decide +kernel)) rfl
set_option maxRecDepth 100000 in
theorem se_X4_setSpans : Cond.selects yX4_setSpans.cls yX4_setSpans yX4_setSpans ∈ gw := gm (List.mem_of_getElem? (i := 25) (by decide +kernel)) rfl
theorem dX4_goThrough_84 : decode cX4_goThrough 84 = .ok (.ifCond .ne 6, 3) := by decide +kernel
theorem dX4_goThrough_90 : decode cX4_goThrough 90 = .ok (.iload_n 1, 1) := by decide +kernel
theorem dX4_goThrough_91 : decode cX4_goThrough 91 = .ok (.ifCond .eq 12, 3) := by decide +kernel
theorem dX4_goThrough_103 : decode cX4_goThrough 103 = .ok (.aload_n 0, 1) := by decide +kernel
theorem dX4_goThrough_104 : decode cX4_goThrough 104 = .ok (.iconst 0, 1) := by decide +kernel
theorem dX4_goThrough_105 : decode cX4_goThrough 105 = .ok (.iload_n 2, 1) := by decide +kernel
theorem dX4_goThrough_106 : decode cX4_goThrough 106 = .ok (.aload_n 0, 1) := by decide +kernel
theorem dX4_goThrough_107 : decode cX4_goThrough 107 = .ok (.getfield 12, 3) := by decide +kernel
theorem dX4_goThrough_110 : decode cX4_goThrough 110 = .ok (.getfield 81, 3) := by decide +kernel
theorem dX4_goThrough_113 : decode cX4_goThrough 113 = .ok (.isub, 1) := by decide +kernel
theorem dX4_goThrough_114 : decode cX4_goThrough 114 = .ok (.iload_n 3, 1) := by decide +kernel
theorem dX4_goThrough_115 : decode cX4_goThrough 115 = .ok (.aload_n 0, 1) := by decide +kernel
theorem dX4_goThrough_116 : decode cX4_goThrough 116 = .ok (.getfield 12, 3) := by decide +kernel
theorem dX4_goThrough_119 : decode cX4_goThrough 119 = .ok (.getfield 87, 3) := by decide +kernel
theorem dX4_goThrough_122 : decode cX4_goThrough 122 = .ok (.iconst 0, 1) := by decide +kernel
theorem dX4_goThrough_123 : decode cX4_goThrough 123 = .ok (.iaload, 1) := by decide +kernel
theorem dX4_goThrough_124 : decode cX4_goThrough 124 = .ok (.isub, 1) := by decide +kernel
theorem dX4_goThrough_125 : decode cX4_goThrough 125 = .ok (.iload 4, 2) := by decide +kernel
theorem dX4_goThrough_127 : decode cX4_goThrough 127 = .ok (.aload_n 0, 1) := by decide +kernel
theorem dX4_goThrough_128 : decode cX4_goThrough 128 = .ok (.getfield 12, 3) := by decide +kernel
theorem dX4_goThrough_131 : decode cX4_goThrough 131 = .ok (.getfield 87, 3) := by decide +kernel
theorem dX4_goThrough_134 : decode cX4_goThrough 134 = .ok (.iconst 1, 1) := by decide +kernel
theorem dX4_goThrough_135 : decode cX4_goThrough 135 = .ok (.iaload, 1) := by decide +kernel
theorem dX4_goThrough_136 : decode cX4_goThrough 136 = .ok (.isub, 1) := by decide +kernel
theorem dX4_goThrough_137 : decode cX4_goThrough 137 = .ok (.invokestatic 101, 3) := by decide +kernel
set_option maxRecDepth 100000 in
theorem wm_X4_101 : Cond.methodLink RX4 101 yX0_head ∈ gw := gm (List.mem_of_getElem? (i := 878) (by decide +kernel)) rfl
set_option maxRecDepth 100000 in
theorem mi_X0_head : MI yX0_head cX0_head 3 (some .long) 3 := ⟨gm (List.mem_of_getElem? (i := 880) rfl) rfl, gm (List.mem_of_getElem? (i := 121) (by decide +kernel)) rfl, by decide, by decide, by decide +kernel⟩
set_option maxRecDepth 100000 in
theorem st_X0_head : Cond.static yX0_head ∈ gw := gm (List.mem_of_getElem? (i := 879) (by decide +kernel)) rfl
theorem dX4_goThrough_140 : decode cX4_goThrough 140 = .ok (.invokevirtual 105, 3) := by decide +kernel
set_option maxRecDepth 100000 in
theorem wm_X4_105 : Cond.methodLink RX4 105 yX4_lay ∈ gw := gm (List.mem_of_getElem? (i := 881) (by decide +kernel)) rfl
set_option maxRecDepth 100000 in
theorem mi_X4_lay : MI yX4_lay cX4_lay 6 none 2 := ⟨gm (List.mem_of_getElem? (i := 884) rfl) rfl, gm (List.mem_of_getElem? (i := 120) (by decide +kernel)) rfl, by decide, by decide, by decide +kernel⟩
set_option maxRecDepth 100000 in
theorem in_X4_lay : Cond.instanceMethod yX4_lay ∈ gw := gm (List.mem_of_getElem? (i := 883) (by decide +kernel)) rfl
set_option maxRecDepth 100000 in
theorem se_X4_lay : Cond.selects yX4_lay.cls yX4_lay yX4_lay ∈ gw := gm (List.mem_of_getElem? (i := 31) (by decide +kernel)) rfl
theorem dX4_goThrough_143 : decode cX4_goThrough 143 = .ok (.iinc 4 1, 3) := by decide +kernel
theorem dX4_goThrough_146 : decode cX4_goThrough 146 = .ok (.goto (-83), 3) := by decide +kernel
theorem dX4_goThrough_149 : decode cX4_goThrough 149 = .ok (.iinc 3 1, 3) := by decide +kernel
theorem dX4_goThrough_152 : decode cX4_goThrough 152 = .ok (.goto (-113), 3) := by decide +kernel
theorem dX4_goThrough_155 : decode cX4_goThrough 155 = .ok (.iinc 2 1, 3) := by decide +kernel
theorem dX4_goThrough_158 : decode cX4_goThrough 158 = .ok (.goto (-145), 3) := by decide +kernel
theorem dX4_goThrough_161 : decode cX4_goThrough 161 = .ok (.return_, 1) := by decide +kernel
set_option maxHeartbeats 4000000 in
set_option maxRecDepth 100000 in
theorem c64_X4_goThrough (l : Launch) (G : va_G) (cI cJ cB cZ : ClassId) (a0 a1 a2 a3 a4 a5 a6 a7 a8 a9 a10 a11 a12 a13 a14 a15 a16 a17 a18 a19 : Nat) : Con l G (TY cI cJ cB cZ) yX4_goThrough cX4_goThrough 5 none ({ frames := 2, cells := 0, slots := 0, locals := 47 } : Room) [.ref a0, .int 0] [(a0, .inr (4, [.ref a1, .ref a2, .ref a3, .ref a4, .ref a5, .ref a6, .ref a7, .int 100, .int 0, .int 0, .int (-1)])), (a1, .inr (7, [.int 100, .int 100, .int 0, .ref a8, .ref a9, .int 0, .ref a10, .ref a11, .ref a12, .ref a13, .ref a14, .ref a15, .ref a16, .ref a17, .ref a18])), (a8, .inl (cI, 2, .inl (upd (upd (fun _ => 0) 0 16) 1 16))), (a9, .inl (cI, 2, .inl (upd (upd (fun _ => 0) 0 16) 1 16))), (a2, .inr (0, [.ref a19, .int 0, .int 1, .long 0, .int 1, .int 0, .long 0])), (a19, .inl (cJ, 256, .inr (.inl (fun _ => 0))))] (QV G (TY cI cJ cB cZ) (fun u : Unit => True) (fun u : Unit => [(a0, .inr (4, [.ref a1, .ref a2, .ref a3, .ref a4, .ref a5, .ref a6, .ref a7, .int 100, .int 0, .int 0, .int (-1)])), (a1, .inr (7, [.int 100, .int 100, .int 0, .ref a8, .ref a9, .int 0, .ref a10, .ref a11, .ref a12, .ref a13, .ref a14, .ref a15, .ref a16, .ref a17, .ref a18])), (a8, .inl (cI, 2, .inl (upd (upd (fun _ => 0) 0 16) 1 16))), (a9, .inl (cI, 2, .inl (upd (upd (fun _ => 0) 0 16) 1 16))), (a2, .inr (0, [.ref a19, .int 1, .int 1, .long 0, .int 1, .int 0, .long 0])), (a19, .inl (cJ, 256, .inr (.inl (vp_updL (fun _ => 0) 0 0))))])) := by
  refine k_met (by decide) (Nat.le_of_ble_eq_true rfl) ?_
  intro p e s m below meth c A ls hC hr hlk hnm hN hK hA hP hD hS hl
  have hl : lv_has ls 5 [(0, .ref a0), (1, .int 0)] := hl
  obtain ⟨hx, hb, hml, hown, hts⟩ := id hC
  refine lv_aload_n hx hb dX4_goThrough_0 rfl (lv_at hl 0 rfl) ?_
  refine lv_iconst (v := (-1)) hx hb dX4_goThrough_1 (by decide) ?_
  refine k_put hC hK hP hD hS iX4 tyX4_ok nmX4 0 10 wf_X4_57 rfl (by decide) rfl rfl rfl rfl (Nat.le_of_ble_eq_true rfl) dX4_goThrough_2 (fun H locs hP hD hS => ?_)
  have hP : va_P G cl [(a0, .inr (4, [.ref a1, .ref a2, .ref a3, .ref a4, .ref a5, .ref a6, .ref a7, .int 100, .int 0, .int 0, .int (-1)])), (a1, .inr (7, [.int 100, .int 100, .int 0, .ref a8, .ref a9, .int 0, .ref a10, .ref a11, .ref a12, .ref a13, .ref a14, .ref a15, .ref a16, .ref a17, .ref a18])), (a8, .inl (cI, 2, .inl (upd (upd (fun _ => 0) 0 16) 1 16))), (a9, .inl (cI, 2, .inl (upd (upd (fun _ => 0) 0 16) 1 16))), (a2, .inr (0, [.ref a19, .int 0, .int 1, .long 0, .int 1, .int 0, .long 0])), (a19, .inl (cJ, 256, .inr (.inl (fun _ => 0))))] H := hP
  have hD : va_D A [(a0, .inr (4, [.ref a1, .ref a2, .ref a3, .ref a4, .ref a5, .ref a6, .ref a7, .int 100, .int 0, .int 0, .int (-1)])), (a1, .inr (7, [.int 100, .int 100, .int 0, .ref a8, .ref a9, .int 0, .ref a10, .ref a11, .ref a12, .ref a13, .ref a14, .ref a15, .ref a16, .ref a17, .ref a18])), (a8, .inl (cI, 2, .inl (upd (upd (fun _ => 0) 0 16) 1 16))), (a9, .inl (cI, 2, .inl (upd (upd (fun _ => 0) 0 16) 1 16))), (a2, .inr (0, [.ref a19, .int 0, .int 1, .long 0, .int 1, .int 0, .long 0])), (a19, .inl (cJ, 256, .inr (.inl (fun _ => 0))))] := hD
  refine lv_aload_n hx hb dX4_goThrough_5 rfl (lv_at hl 0 rfl) ?_
  refine k_get hC hK hP iX4 0 0 wf_X4_12 rfl (by decide) rfl rfl dX4_goThrough_6 ?_
  refine k_getN hC hN hK hP iX7 1 0 wf_X4_81 rfl (by decide) rfl rfl dX4_goThrough_9 ?_
  refine lv_istore_n (lv' := [(2, .int 100), (0, .ref a0), (1, .int 0)]) hx hb dX4_goThrough_12 rfl hl (by decide) rfl (fun ls hl => ?_)
  refine lv_iload_n hx hb dX4_goThrough_13 rfl (lv_at hl 0 rfl) ?_
  refine lv_aload_n hx hb dX4_goThrough_14 rfl (lv_at hl 1 rfl) ?_
  refine k_get hC hK hP iX4 0 0 wf_X4_12 rfl (by decide) rfl rfl dX4_goThrough_15 ?_
  refine k_getN hC hN hK hP iX7 1 1 wf_X4_84 rfl (by decide) rfl rfl dX4_goThrough_18 ?_
  refine lv_icmp_gt (tgt := 161) hx hb dX4_goThrough_21 (by decide) (fun c_ => absurd c_ (by decide +kernel)) (fun _ => ?_)
  refine lv_aload_n hx hb dX4_goThrough_24 rfl (lv_at hl 1 rfl) ?_
  refine lv_iload_n hx hb dX4_goThrough_25 rfl (lv_at hl 0 rfl) ?_
  refine k_put hC hK hP hD hS iX4 tyX4_ok nmX4 0 7 wf_X4_47 rfl (by decide) rfl rfl rfl rfl (Nat.le_of_ble_eq_true rfl) dX4_goThrough_26 (fun H locs hP hD hS => ?_)
  have hP : va_P G cl [(a0, .inr (4, [.ref a1, .ref a2, .ref a3, .ref a4, .ref a5, .ref a6, .ref a7, .int 100, .int 0, .int 0, .int (-1)])), (a1, .inr (7, [.int 100, .int 100, .int 0, .ref a8, .ref a9, .int 0, .ref a10, .ref a11, .ref a12, .ref a13, .ref a14, .ref a15, .ref a16, .ref a17, .ref a18])), (a8, .inl (cI, 2, .inl (upd (upd (fun _ => 0) 0 16) 1 16))), (a9, .inl (cI, 2, .inl (upd (upd (fun _ => 0) 0 16) 1 16))), (a2, .inr (0, [.ref a19, .int 0, .int 1, .long 0, .int 1, .int 0, .long 0])), (a19, .inl (cJ, 256, .inr (.inl (fun _ => 0))))] H := hP
  have hD : va_D A [(a0, .inr (4, [.ref a1, .ref a2, .ref a3, .ref a4, .ref a5, .ref a6, .ref a7, .int 100, .int 0, .int 0, .int (-1)])), (a1, .inr (7, [.int 100, .int 100, .int 0, .ref a8, .ref a9, .int 0, .ref a10, .ref a11, .ref a12, .ref a13, .ref a14, .ref a15, .ref a16, .ref a17, .ref a18])), (a8, .inl (cI, 2, .inl (upd (upd (fun _ => 0) 0 16) 1 16))), (a9, .inl (cI, 2, .inl (upd (upd (fun _ => 0) 0 16) 1 16))), (a2, .inr (0, [.ref a19, .int 0, .int 1, .long 0, .int 1, .int 0, .long 0])), (a19, .inl (cJ, 256, .inr (.inl (fun _ => 0))))] := hD
  refine lv_aload_n hx hb dX4_goThrough_29 rfl (lv_at hl 1 rfl) ?_
  refine k_get hC hK hP iX4 0 0 wf_X4_12 rfl (by decide) rfl rfl dX4_goThrough_30 ?_
  refine k_getN hC hN hK hP iX7 1 3 wf_X4_87 rfl (by decide) rfl rfl dX4_goThrough_33 ?_
  refine lv_iconst (v := 0) hx hb dX4_goThrough_36 (by decide) ?_
  refine k_iald (v := 16) hC hK hP 2 0 rfl (by decide +kernel) (by decide) (by decide +kernel) dX4_goThrough_37 ?_
  refine lv_istore_n (lv' := [(3, .int 16), (2, .int 100), (0, .ref a0), (1, .int 0)]) hx hb dX4_goThrough_38 rfl hl (by decide) rfl (fun ls hl => ?_)
  refine lv_iload_n hx hb dX4_goThrough_39 rfl (lv_at hl 0 rfl) ?_
  refine lv_aload_n hx hb dX4_goThrough_40 rfl (lv_at hl 2 rfl) ?_
  refine k_get hC hK hP iX4 0 0 wf_X4_12 rfl (by decide) rfl rfl dX4_goThrough_41 ?_
  refine k_getN hC hN hK hP iX7 1 4 wf_X4_90 rfl (by decide) rfl rfl dX4_goThrough_44 ?_
  refine lv_iconst (v := 0) hx hb dX4_goThrough_47 (by decide) ?_
  refine k_iald (v := 16) hC hK hP 3 0 rfl (by decide +kernel) (by decide) (by decide +kernel) dX4_goThrough_48 ?_
  refine lv_icmp_gt (tgt := 155) hx hb dX4_goThrough_49 (by decide) (fun c_ => absurd c_ (by decide +kernel)) (fun _ => ?_)
  refine lv_aload_n hx hb dX4_goThrough_52 rfl (lv_at hl 2 rfl) ?_
  refine k_get hC hK hP iX4 0 0 wf_X4_12 rfl (by decide) rfl rfl dX4_goThrough_53 ?_
  refine k_getN hC hN hK hP iX7 1 3 wf_X4_87 rfl (by decide) rfl rfl dX4_goThrough_56 ?_
  refine lv_iconst (v := 1) hx hb dX4_goThrough_59 (by decide) ?_
  refine k_iald (v := 16) hC hK hP 2 1 rfl (by decide +kernel) (by decide) (by decide +kernel) dX4_goThrough_60 ?_
  refine lv_istore (lv' := [(4, .int 16), (3, .int 16), (2, .int 100), (0, .ref a0), (1, .int 0)]) hx hb dX4_goThrough_61 hl (by decide) rfl (fun ls hl => ?_)
  refine lv_iload hx hb dX4_goThrough_63 (lv_at hl 0 rfl) ?_
  refine lv_aload_n hx hb dX4_goThrough_65 rfl (lv_at hl 3 rfl) ?_
  refine k_get hC hK hP iX4 0 0 wf_X4_12 rfl (by decide) rfl rfl dX4_goThrough_66 ?_
  refine k_getN hC hN hK hP iX7 1 4 wf_X4_90 rfl (by decide) rfl rfl dX4_goThrough_69 ?_
  refine lv_iconst (v := 1) hx hb dX4_goThrough_72 (by decide) ?_
  refine k_iald (v := 16) hC hK hP 3 1 rfl (by decide +kernel) (by decide) (by decide +kernel) dX4_goThrough_73 ?_
  refine lv_icmp_gt (tgt := 149) hx hb dX4_goThrough_74 (by decide) (fun c_ => absurd c_ (by decide +kernel)) (fun _ => ?_)
  refine lv_aload_n hx hb dX4_goThrough_77 rfl (lv_at hl 3 rfl) ?_
  refine lv_iload_n hx hb dX4_goThrough_78 rfl (lv_at hl 1 rfl) ?_
  refine lv_iload hx hb dX4_goThrough_79 (lv_at hl 0 rfl) ?_
  refine k_ci (wr := [(a8, .inl (cI, 2, .inl (upd (upd (fun _ => 0) 0 16) 1 16))), (a9, .inl (cI, 2, .inl (upd (upd (fun _ => 0) 0 16) 1 16))), (a2, .inr (0, [.ref a19, .int 0, .int 1, .long 0, .int 1, .int 0, .long 0])), (a19, .inl (cJ, 256, .inr (.inl (fun _ => 0))))]) (k_rV hC hN hK hP hD (c60_X4_setSpans l G cI cJ cB cZ a0 a1 a2 a3 a4 a5 a6 a7 a8 a9 a10 a11 a12 a13 a14 a15 a16 a17 a18) [0, 1] rfl (by decide) mi_X4_setSpans in_X4_setSpans se_X4_setSpans wm_X4_93 4 0 rfl rfl rfl hl.1 rfl rfl (Nat.le_of_ble_eq_true rfl) ⟨(Nat.le_of_ble_eq_true rfl), (Nat.le_of_ble_eq_true rfl)⟩ dX4_goThrough_81 ⟨(Nat.le_of_ble_eq_true rfl), (Nat.le_of_ble_eq_true rfl)⟩) hP hD hS hA [0, 1] [2, 3, 4, 5] rfl rfl (by decide) (by decide) (fun r1 u1 H locs hp hP hD hS => ?_)
  have hP : va_P G cl [(a8, .inl (cI, 2, .inl (upd (upd (fun _ => 0) 0 16) 1 16))), (a9, .inl (cI, 2, .inl (upd (upd (fun _ => 0) 0 16) 1 16))), (a2, .inr (0, [.ref a19, .int 0, .int 1, .long 0, .int 1, .int 0, .long 0])), (a19, .inl (cJ, 256, .inr (.inl (fun _ => 0)))), (a0, .inr (4, [.ref a1, .ref a2, .ref a3, .ref a4, .ref a5, .ref a6, .ref a7, .int 100, .int 0, .int 0, .int (-1)])), (a1, .inr (7, [.int 100, .int 100, .int 0, .ref a8, .ref a9, .int 0, .ref a10, .ref a11, .ref a12, .ref a13, .ref a14, .ref a15, .ref a16, .ref a17, .ref a18]))] H := hP
  have hD : va_D A [(a8, .inl (cI, 2, .inl (upd (upd (fun _ => 0) 0 16) 1 16))), (a9, .inl (cI, 2, .inl (upd (upd (fun _ => 0) 0 16) 1 16))), (a2, .inr (0, [.ref a19, .int 0, .int 1, .long 0, .int 1, .int 0, .long 0])), (a19, .inl (cJ, 256, .inr (.inl (fun _ => 0)))), (a0, .inr (4, [.ref a1, .ref a2, .ref a3, .ref a4, .ref a5, .ref a6, .ref a7, .int 100, .int 0, .int 0, .int (-1)])), (a1, .inr (7, [.int 100, .int 100, .int 0, .ref a8, .ref a9, .int 0, .ref a10, .ref a11, .ref a12, .ref a13, .ref a14, .ref a15, .ref a16, .ref a17, .ref a18]))] := hD
  subst hp
  refine lv_if_ne (tgt := 90) hx hb dX4_goThrough_84 (by decide) (fun _ => ?_) (fun c_ => absurd c_ (by decide +kernel))
  refine lv_iload_n hx hb dX4_goThrough_90 rfl (lv_at hl 4 rfl) ?_
  refine lv_if_eq (tgt := 103) hx hb dX4_goThrough_91 (by decide) (fun _ => ?_) (fun c_ => absurd (by decide +kernel) c_)
  refine lv_aload_n hx hb dX4_goThrough_103 rfl (lv_at hl 3 rfl) ?_
  refine lv_iconst (v := 0) hx hb dX4_goThrough_104 (by decide) ?_
  refine lv_iload_n hx hb dX4_goThrough_105 rfl (lv_at hl 2 rfl) ?_
  refine lv_aload_n hx hb dX4_goThrough_106 rfl (lv_at hl 3 rfl) ?_
  refine k_get hC hK hP iX4 4 0 wf_X4_12 rfl (by decide) rfl rfl dX4_goThrough_107 ?_
  refine k_getN hC hN hK hP iX7 5 0 wf_X4_81 rfl (by decide) rfl rfl dX4_goThrough_110 ?_
  refine lv_isub hx hb dX4_goThrough_113 ?_
  refine k_i 0 (by decide +kernel) ?_
  refine lv_iload_n hx hb dX4_goThrough_114 rfl (lv_at hl 1 rfl) ?_
  refine lv_aload_n hx hb dX4_goThrough_115 rfl (lv_at hl 3 rfl) ?_
  refine k_get hC hK hP iX4 4 0 wf_X4_12 rfl (by decide) rfl rfl dX4_goThrough_116 ?_
  refine k_getN hC hN hK hP iX7 5 3 wf_X4_87 rfl (by decide) rfl rfl dX4_goThrough_119 ?_
  refine lv_iconst (v := 0) hx hb dX4_goThrough_122 (by decide) ?_
  refine k_iald (v := 16) hC hK hP 0 0 rfl (by decide +kernel) (by decide) (by decide +kernel) dX4_goThrough_123 ?_
  refine lv_isub hx hb dX4_goThrough_124 ?_
  refine k_i 0 (by decide +kernel) ?_
  refine lv_iload hx hb dX4_goThrough_125 (lv_at hl 0 rfl) ?_
  refine lv_aload_n hx hb dX4_goThrough_127 rfl (lv_at hl 3 rfl) ?_
  refine k_get hC hK hP iX4 4 0 wf_X4_12 rfl (by decide) rfl rfl dX4_goThrough_128 ?_
  refine k_getN hC hN hK hP iX7 5 3 wf_X4_87 rfl (by decide) rfl rfl dX4_goThrough_131 ?_
  refine lv_iconst (v := 1) hx hb dX4_goThrough_134 (by decide) ?_
  refine k_iald (v := 16) hC hK hP 0 1 rfl (by decide +kernel) (by decide) (by decide +kernel) dX4_goThrough_135 ?_
  refine lv_isub hx hb dX4_goThrough_136 ?_
  refine k_i 0 (by decide +kernel) ?_
  refine k_cl (wr := [(a8, .inl (cI, 2, .inl (upd (upd (fun _ => 0) 0 16) 1 16))), (a9, .inl (cI, 2, .inl (upd (upd (fun _ => 0) 0 16) 1 16))), (a2, .inr (0, [.ref a19, .int 0, .int 1, .long 0, .int 1, .int 0, .long 0])), (a19, .inl (cJ, 256, .inr (.inl (fun _ => 0)))), (a0, .inr (4, [.ref a1, .ref a2, .ref a3, .ref a4, .ref a5, .ref a6, .ref a7, .int 100, .int 0, .int 0, .int (-1)])), (a1, .inr (7, [.int 100, .int 100, .int 0, .ref a8, .ref a9, .int 0, .ref a10, .ref a11, .ref a12, .ref a13, .ref a14, .ref a15, .ref a16, .ref a17, .ref a18]))]) (k_rS hC hN hK hP hD (c61_X0_head l G cI cJ cB cZ) [] rfl (by decide) mi_X0_head st_X0_head wm_X4_101 hl.1 rfl rfl (Nat.le_of_ble_eq_true rfl) ⟨(Nat.le_of_ble_eq_true rfl), (Nat.le_of_ble_eq_true rfl)⟩ dX4_goThrough_137 ⟨(Nat.le_of_ble_eq_true rfl), (Nat.le_of_ble_eq_true rfl)⟩) hP hD hS hA [] [0, 1, 2, 3, 4, 5] rfl rfl (by decide) (by decide) (fun r2 u2 H locs hp hP hD hS => ?_)
  have hP : va_P G cl [(a8, .inl (cI, 2, .inl (upd (upd (fun _ => 0) 0 16) 1 16))), (a9, .inl (cI, 2, .inl (upd (upd (fun _ => 0) 0 16) 1 16))), (a2, .inr (0, [.ref a19, .int 0, .int 1, .long 0, .int 1, .int 0, .long 0])), (a19, .inl (cJ, 256, .inr (.inl (fun _ => 0)))), (a0, .inr (4, [.ref a1, .ref a2, .ref a3, .ref a4, .ref a5, .ref a6, .ref a7, .int 100, .int 0, .int 0, .int (-1)])), (a1, .inr (7, [.int 100, .int 100, .int 0, .ref a8, .ref a9, .int 0, .ref a10, .ref a11, .ref a12, .ref a13, .ref a14, .ref a15, .ref a16, .ref a17, .ref a18]))] H := hP
  have hD : va_D A [(a8, .inl (cI, 2, .inl (upd (upd (fun _ => 0) 0 16) 1 16))), (a9, .inl (cI, 2, .inl (upd (upd (fun _ => 0) 0 16) 1 16))), (a2, .inr (0, [.ref a19, .int 0, .int 1, .long 0, .int 1, .int 0, .long 0])), (a19, .inl (cJ, 256, .inr (.inl (fun _ => 0)))), (a0, .inr (4, [.ref a1, .ref a2, .ref a3, .ref a4, .ref a5, .ref a6, .ref a7, .int 100, .int 0, .int 0, .int (-1)])), (a1, .inr (7, [.int 100, .int 100, .int 0, .ref a8, .ref a9, .int 0, .ref a10, .ref a11, .ref a12, .ref a13, .ref a14, .ref a15, .ref a16, .ref a17, .ref a18]))] := hD
  subst hp
  refine k_cv (wr := [(a8, .inl (cI, 2, .inl (upd (upd (fun _ => 0) 0 16) 1 16))), (a9, .inl (cI, 2, .inl (upd (upd (fun _ => 0) 0 16) 1 16)))]) (k_rV hC hN hK hP hD (c63_X4_lay l G cI cJ cB cZ a0 a1 a2 a3 a4 a5 a6 a7 a8 a9 a10 a11 a12 a13 a14 a15 a16 a17 a18 a19) [4, 5, 2, 3] rfl (by decide) mi_X4_lay in_X4_lay se_X4_lay wm_X4_105 4 4 rfl rfl rfl hl.1 rfl rfl (Nat.le_of_ble_eq_true rfl) ⟨(Nat.le_of_ble_eq_true rfl), (Nat.le_of_ble_eq_true rfl)⟩ dX4_goThrough_140 ⟨(Nat.le_of_ble_eq_true rfl), (Nat.le_of_ble_eq_true rfl)⟩) hP hD hS hA [4, 5, 2, 3] [0, 1] rfl rfl (by decide) (by decide) (fun u3 H locs hp hP hD hS => ?_)
  have hP : va_P G cl [(a8, .inl (cI, 2, .inl (upd (upd (fun _ => 0) 0 16) 1 16))), (a9, .inl (cI, 2, .inl (upd (upd (fun _ => 0) 0 16) 1 16))), (a0, .inr (4, [.ref a1, .ref a2, .ref a3, .ref a4, .ref a5, .ref a6, .ref a7, .int 100, .int 0, .int 0, .int (-1)])), (a1, .inr (7, [.int 100, .int 100, .int 0, .ref a8, .ref a9, .int 0, .ref a10, .ref a11, .ref a12, .ref a13, .ref a14, .ref a15, .ref a16, .ref a17, .ref a18])), (a2, .inr (0, [.ref a19, .int 1, .int 1, .long 0, .int 1, .int 0, .long 0])), (a19, .inl (cJ, 256, .inr (.inl (vp_updL (fun _ => 0) 0 0))))] H := hP
  have hD : va_D A [(a8, .inl (cI, 2, .inl (upd (upd (fun _ => 0) 0 16) 1 16))), (a9, .inl (cI, 2, .inl (upd (upd (fun _ => 0) 0 16) 1 16))), (a0, .inr (4, [.ref a1, .ref a2, .ref a3, .ref a4, .ref a5, .ref a6, .ref a7, .int 100, .int 0, .int 0, .int (-1)])), (a1, .inr (7, [.int 100, .int 100, .int 0, .ref a8, .ref a9, .int 0, .ref a10, .ref a11, .ref a12, .ref a13, .ref a14, .ref a15, .ref a16, .ref a17, .ref a18])), (a2, .inr (0, [.ref a19, .int 1, .int 1, .long 0, .int 1, .int 0, .long 0])), (a19, .inl (cJ, 256, .inr (.inl (vp_updL (fun _ => 0) 0 0))))] := hD
  refine lv_iinc (v := 17) (lv' := [(4, .int 17), (3, .int 16), (2, .int 100), (0, .ref a0), (1, .int 0)]) hx hb dX4_goThrough_143 hl (k := 0) rfl (by decide +kernel) (by decide) rfl (fun ls hl => ?_)
  refine lv_goto (tgt := 63) hx hb dX4_goThrough_146 (by decide) ?_
  refine lv_iload hx hb dX4_goThrough_63 (lv_at hl 0 rfl) ?_
  refine lv_aload_n hx hb dX4_goThrough_65 rfl (lv_at hl 3 rfl) ?_
  refine k_get hC hK hP iX4 2 0 wf_X4_12 rfl (by decide) rfl rfl dX4_goThrough_66 ?_
  refine k_getN hC hN hK hP iX7 3 4 wf_X4_90 rfl (by decide) rfl rfl dX4_goThrough_69 ?_
  refine lv_iconst (v := 1) hx hb dX4_goThrough_72 (by decide) ?_
  refine k_iald (v := 16) hC hK hP 1 1 rfl (by decide +kernel) (by decide) (by decide +kernel) dX4_goThrough_73 ?_
  refine lv_icmp_gt (tgt := 149) hx hb dX4_goThrough_74 (by decide) (fun _ => ?_) (fun c_ => absurd (by decide +kernel) c_)
  refine lv_iinc (v := 17) (lv' := [(3, .int 17), (4, .int 17), (2, .int 100), (0, .ref a0), (1, .int 0)]) hx hb dX4_goThrough_149 hl (k := 1) rfl (by decide +kernel) (by decide) rfl (fun ls hl => ?_)
  refine lv_goto (tgt := 39) hx hb dX4_goThrough_152 (by decide) ?_
  refine lv_iload_n hx hb dX4_goThrough_39 rfl (lv_at hl 0 rfl) ?_
  refine lv_aload_n hx hb dX4_goThrough_40 rfl (lv_at hl 3 rfl) ?_
  refine k_get hC hK hP iX4 2 0 wf_X4_12 rfl (by decide) rfl rfl dX4_goThrough_41 ?_
  refine k_getN hC hN hK hP iX7 3 4 wf_X4_90 rfl (by decide) rfl rfl dX4_goThrough_44 ?_
  refine lv_iconst (v := 0) hx hb dX4_goThrough_47 (by decide) ?_
  refine k_iald (v := 16) hC hK hP 1 0 rfl (by decide +kernel) (by decide) (by decide +kernel) dX4_goThrough_48 ?_
  refine lv_icmp_gt (tgt := 155) hx hb dX4_goThrough_49 (by decide) (fun _ => ?_) (fun c_ => absurd (by decide +kernel) c_)
  refine lv_iinc (v := 101) (lv' := [(2, .int 101), (3, .int 17), (4, .int 17), (0, .ref a0), (1, .int 0)]) hx hb dX4_goThrough_155 hl (k := 2) rfl (by decide +kernel) (by decide) rfl (fun ls hl => ?_)
  refine lv_goto (tgt := 13) hx hb dX4_goThrough_158 (by decide) ?_
  refine lv_iload_n hx hb dX4_goThrough_13 rfl (lv_at hl 0 rfl) ?_
  refine lv_aload_n hx hb dX4_goThrough_14 rfl (lv_at hl 3 rfl) ?_
  refine k_get hC hK hP iX4 2 0 wf_X4_12 rfl (by decide) rfl rfl dX4_goThrough_15 ?_
  refine k_getN hC hN hK hP iX7 3 1 wf_X4_84 rfl (by decide) rfl rfl dX4_goThrough_18 ?_
  refine lv_icmp_gt (tgt := 161) hx hb dX4_goThrough_21 (by decide) (fun _ => ?_) (fun c_ => absurd (by decide +kernel) c_)
  exact k_vret hC hr hlk hK hP hD hS () [2, 3, 0, 1, 4, 5] rfl (by decide) trivial (Nat.le_of_ble_eq_true rfl) (Nat.le_of_ble_eq_true rfl) dX4_goThrough_161
theorem dX9_known_0 : decode cX9_known 0 = .ok (.aload_n 0, 1) := by decide +kernel
theorem dX9_known_1 : decode cX9_known 1 = .ok (.getfield 10, 3) := by decide +kernel
theorem dX9_known_4 : decode cX9_known 4 = .ok (.invokevirtual 264, 3) := by decide +kernel
set_option maxRecDepth 100000 in
theorem wm_X9_264 : Cond.methodLink RX9 264 yX7_ways ∈ gw := gm (List.mem_of_getElem? (i := 790) (by decide +kernel)) rfl
set_option maxRecDepth 100000 in
theorem mi_X7_ways : MI yX7_ways cX7_ways 3 (some .int) 0 := ⟨gm (List.mem_of_getElem? (i := 793) rfl) rfl, gm (List.mem_of_getElem? (i := 113) (by decide +kernel)) rfl, by decide, by decide, by decide +kernel⟩
set_option maxRecDepth 100000 in
theorem in_X7_ways : Cond.instanceMethod yX7_ways ∈ gw := gm (List.mem_of_getElem? (i := 791) (by decide +kernel)) rfl
set_option maxRecDepth 100000 in
theorem se_X7_ways : Cond.selects yX7_ways.cls yX7_ways yX7_ways ∈ gw := gm (List.mem_of_getElem? (i := 792) (by decide +kernel)) rfl
theorem dX9_known_7 : decode cX9_known 7 = .ok (.ldc_w 292, 3) := by decide +kernel
set_option maxRecDepth 100000 in
theorem kc_X9_292 : Cond.constant RX9 292 300000 ∈ gw := gm (List.mem_of_getElem? (i := 794) (by decide +kernel)) rfl
theorem dX9_known_10 : decode cX9_known 10 = .ok (.if_icmp .le 6, 3) := by decide +kernel
theorem dX9_known_16 : decode cX9_known 16 = .ok (.aload_n 0, 1) := by decide +kernel
theorem dX9_known_17 : decode cX9_known 17 = .ok (.iload_n 1, 1) := by decide +kernel
theorem dX9_known_18 : decode cX9_known 18 = .ok (.invokevirtual 267, 3) := by decide +kernel
set_option maxRecDepth 100000 in
theorem wm_X9_267 : Cond.methodLink RX9 267 yX9_countingAt ∈ gw := gm (List.mem_of_getElem? (i := 795) (by decide +kernel)) rfl
set_option maxRecDepth 100000 in
theorem mi_X9_countingAt : MI yX9_countingAt cX9_countingAt 6 (some .long) 1 := ⟨gm (List.mem_of_getElem? (i := 798) rfl) rfl, gm (List.mem_of_getElem? (i := 112) (by decide +kernel)) rfl, by decide, by decide, by decide +kernel⟩
set_option maxRecDepth 100000 in
theorem in_X9_countingAt : Cond.instanceMethod yX9_countingAt ∈ gw := gm (List.mem_of_getElem? (i := 797) (by decide +kernel)) rfl
set_option maxRecDepth 100000 in
theorem se_X9_countingAt : Cond.selects yX9_countingAt.cls yX9_countingAt yX9_countingAt ∈ gw := gm (List.mem_of_getElem? (i := 23) (by decide +kernel)) rfl
theorem dX9_known_21 : decode cX9_known 21 = .ok (.lstore_n 2, 1) := by decide +kernel
theorem dX9_known_22 : decode cX9_known 22 = .ok (.aload_n 0, 1) := by decide +kernel
theorem dX9_known_23 : decode cX9_known 23 = .ok (.getfield 50, 3) := by decide +kernel
theorem dX9_known_26 : decode cX9_known 26 = .ok (.lload_n 2, 1) := by decide +kernel
theorem dX9_known_27 : decode cX9_known 27 = .ok (.invokevirtual 293, 3) := by decide +kernel
set_option maxRecDepth 100000 in
theorem wm_X9_293 : Cond.methodLink RX9 293 yX0_isOf ∈ gw := gm (List.mem_of_getElem? (i := 803) (by decide +kernel)) rfl
set_option maxRecDepth 100000 in
theorem mi_X0_isOf : MI yX0_isOf cX0_isOf 3 (some .boolean) 1 := ⟨gm (List.mem_of_getElem? (i := 806) rfl) rfl, gm (List.mem_of_getElem? (i := 121) (by decide +kernel)) rfl, by decide, by decide, by decide +kernel⟩
set_option maxRecDepth 100000 in
theorem in_X0_isOf : Cond.instanceMethod yX0_isOf ∈ gw := gm (List.mem_of_getElem? (i := 804) (by decide +kernel)) rfl
set_option maxRecDepth 100000 in
theorem se_X0_isOf : Cond.selects yX0_isOf.cls yX0_isOf yX0_isOf ∈ gw := gm (List.mem_of_getElem? (i := 805) (by decide +kernel)) rfl
theorem dX9_known_30 : decode cX9_known 30 = .ok (.ifCond .ne 35, 3) := by decide +kernel
theorem dX9_known_33 : decode cX9_known 33 = .ok (.aload_n 0, 1) := by decide +kernel
theorem dX9_known_34 : decode cX9_known 34 = .ok (.getfield 50, 3) := by decide +kernel
theorem dX9_known_37 : decode cX9_known 37 = .ok (.lload_n 2, 1) := by decide +kernel
theorem dX9_known_38 : decode cX9_known 38 = .ok (.invokevirtual 297, 3) := by decide +kernel
set_option maxRecDepth 100000 in
theorem wm_X9_297 : Cond.methodLink RX9 297 yX0_restart ∈ gw := gm (List.mem_of_getElem? (i := 807) (by decide +kernel)) rfl
set_option maxRecDepth 100000 in
theorem mi_X0_restart : MI yX0_restart cX0_restart 3 none 1 := ⟨gm (List.mem_of_getElem? (i := 810) rfl) rfl, gm (List.mem_of_getElem? (i := 121) (by decide +kernel)) rfl, by decide, by decide, by decide +kernel⟩
set_option maxRecDepth 100000 in
theorem in_X0_restart : Cond.instanceMethod yX0_restart ∈ gw := gm (List.mem_of_getElem? (i := 808) (by decide +kernel)) rfl
set_option maxRecDepth 100000 in
theorem se_X0_restart : Cond.selects yX0_restart.cls yX0_restart yX0_restart ∈ gw := gm (List.mem_of_getElem? (i := 809) (by decide +kernel)) rfl
theorem dX9_known_41 : decode cX9_known 41 = .ok (.aload_n 0, 1) := by decide +kernel
theorem dX9_known_42 : decode cX9_known 42 = .ok (.getfield 42, 3) := by decide +kernel
theorem dX9_known_45 : decode cX9_known 45 = .ok (.aload_n 0, 1) := by decide +kernel
theorem dX9_known_46 : decode cX9_known 46 = .ok (.getfield 10, 3) := by decide +kernel
theorem dX9_known_49 : decode cX9_known 49 = .ok (.aload_n 0, 1) := by decide +kernel
theorem dX9_known_50 : decode cX9_known 50 = .ok (.getfield 28, 3) := by decide +kernel
theorem dX9_known_53 : decode cX9_known 53 = .ok (.lload_n 2, 1) := by decide +kernel
theorem dX9_known_54 : decode cX9_known 54 = .ok (.invokevirtual 270, 3) := by decide +kernel
set_option maxRecDepth 100000 in
theorem wm_X9_270 : Cond.methodLink RX9 270 yX4_gather ∈ gw := gm (List.mem_of_getElem? (i := 811) (by decide +kernel)) rfl
set_option maxRecDepth 100000 in
theorem mi_X4_gather : MI yX4_gather cX4_gather 6 none 3 := ⟨gm (List.mem_of_getElem? (i := 814) rfl) rfl, gm (List.mem_of_getElem? (i := 120) (by decide +kernel)) rfl, by decide, by decide, by decide +kernel⟩
set_option maxRecDepth 100000 in
theorem in_X4_gather : Cond.instanceMethod yX4_gather ∈ gw := gm (List.mem_of_getElem? (i := 812) (by decide +kernel)) rfl
set_option maxRecDepth 100000 in
theorem se_X4_gather : Cond.selects yX4_gather.cls yX4_gather yX4_gather ∈ gw := gm (List.mem_of_getElem? (i := 813) (by decide +kernel)) rfl
theorem dX9_known_57 : decode cX9_known 57 = .ok (.aload_n 0, 1) := by decide +kernel
theorem dX9_known_58 : decode cX9_known 58 = .ok (.getfield 42, 3) := by decide +kernel
theorem dX9_known_61 : decode cX9_known 61 = .ok (.iconst 0, 1) := by decide +kernel
theorem dX9_known_62 : decode cX9_known 62 = .ok (.invokevirtual 282, 3) := by decide +kernel
set_option maxRecDepth 100000 in
theorem wm_X9_282 : Cond.methodLink RX9 282 yX4_goThrough ∈ gw := gm (List.mem_of_getElem? (i := 828) (by decide +kernel)) rfl
set_option maxRecDepth 100000 in
theorem mi_X4_goThrough : MI yX4_goThrough cX4_goThrough 5 none 1 := ⟨gm (List.mem_of_getElem? (i := 831) rfl) rfl, gm (List.mem_of_getElem? (i := 120) (by decide +kernel)) rfl, by decide, by decide, by decide +kernel⟩
set_option maxRecDepth 100000 in
theorem in_X4_goThrough : Cond.instanceMethod yX4_goThrough ∈ gw := gm (List.mem_of_getElem? (i := 829) (by decide +kernel)) rfl
set_option maxRecDepth 100000 in
theorem se_X4_goThrough : Cond.selects yX4_goThrough.cls yX4_goThrough yX4_goThrough ∈ gw := gm (List.mem_of_getElem? (i := 830) (by decide +kernel)) rfl
theorem dX9_known_65 : decode cX9_known 65 = .ok (.aload_n 0, 1) := by decide +kernel
theorem dX9_known_66 : decode cX9_known 66 = .ok (.getfield 50, 3) := by decide +kernel
theorem dX9_known_69 : decode cX9_known 69 = .ok (.getfield 301, 3) := by decide +kernel
set_option maxRecDepth 100000 in
theorem wf_X9_301 : Cond.fieldLinkNest RX9 301 "StoneTrust$Fits" "size" "I" "StoneTrust" ∈ nests := nm_ (List.mem_of_getElem? (i := 386) (by decide +kernel)) rfl
theorem dX9_known_72 : decode cX9_known 72 = .ok (.ireturn, 1) := by decide +kernel
set_option maxHeartbeats 4000000 in
set_option maxRecDepth 100000 in
theorem c65_X9_known (l : Launch) (G : va_G) (cI cJ cB cZ : ClassId) (a0 a1 a2 a3 a4 a5 a6 a7 a8 a9 a10 a11 a12 a13 a14 a15 a16 a17 a18 a19 a20 a21 a22 a23 a24 a25 a26 a27 a28 a29 a30 a31 a32 a33 a34 a35 a36 a37 a38 a39 a40 a41 a42 a43 a44 a45 a46 : Nat) (x0 : Int32) : Con l G (TY cI cJ cB cZ) yX9_known cX9_known 4 (some .int) ({ frames := 3, cells := 0, slots := 0, locals := 71 } : Room) [.ref a0, .int x0] [(a0, .inr (9, [.ref a1, .ref a2, .ref a3, .int 0, .int 0, .ref a4, .ref a5, .ref a6, .ref a7])), (a1, .inr (7, [.int 100, .int 100, .int 0, .ref a8, .ref a9, .int 0, .ref a10, .ref a11, .ref a12, .ref a13, .ref a14, .ref a15, .ref a16, .ref a17, .ref a18])), (a9, .inl (cI, 2, .inl (upd (upd (fun _ => 0) 0 16) 1 16))), (a8, .inl (cI, 2, .inl (upd (upd (fun _ => 0) 0 16) 1 16))), (a17, .inr (8, [.ref a19, .ref a20, .ref a21, .ref a22, .ref a23, .ref a24, .ref a25, .int 0])), (a3, .inr (8, [.ref a26, .ref a27, .ref a28, .ref a29, .ref a30, .ref a31, .ref a32, .int 0])), (a5, .inr (0, [.ref a33, .int 0, .int 0, .long 0, .int 0, .int 0, .long 0])), (a4, .inr (4, [.ref a34, .ref a5, .ref a35, .ref a36, .ref a37, .ref a38, .ref a39, .int 100, .int 0, .int 0, .int (-1)])), (a35, .inr (8, [.ref a40, .ref a41, .ref a42, .ref a43, .ref a44, .ref a45, .ref a46, .int 0])), (a36, .inl (cI, 7, .inl (fun _ => 0))), (a33, .inl (cJ, 256, .inr (.inl (fun _ => 0))))] (QI G (TY cI cJ cB cZ) (fun (r : Int32) (u : Unit) => r = 1) (fun u : Unit => [(a0, .inr (9, [.ref a1, .ref a2, .ref a3, .int 0, .int 0, .ref a4, .ref a5, .ref a6, .ref a7])), (a1, .inr (7, [.int 100, .int 100, .int 0, .ref a8, .ref a9, .int 0, .ref a10, .ref a11, .ref a12, .ref a13, .ref a14, .ref a15, .ref a16, .ref a17, .ref a18])), (a9, .inl (cI, 2, .inl (upd (upd (fun _ => 0) 0 16) 1 16))), (a8, .inl (cI, 2, .inl (upd (upd (fun _ => 0) 0 16) 1 16))), (a17, .inr (8, [.ref a19, .ref a20, .ref a21, .ref a22, .ref a23, .ref a24, .ref a25, .int 0])), (a3, .inr (8, [.ref a26, .ref a27, .ref a28, .ref a29, .ref a30, .ref a31, .ref a32, .int 0])), (a5, .inr (0, [.ref a33, .int 1, .int 1, .long 0, .int 1, .int 0, .long 0])), (a4, .inr (4, [.ref a1, .ref a5, .ref a35, .ref a36, .ref a37, .ref a38, .ref a39, .int 100, .int 0, .int 0, .int (-1)])), (a35, .inr (8, [.ref a40, .ref a41, .ref a42, .ref a43, .ref a44, .ref a45, .ref a46, .int 0])), (a36, .inl (cI, 7, .inl (fun _ => 0))), (a33, .inl (cJ, 256, .inr (.inl (vp_updL (fun _ => 0) 0 0))))])) := by
  refine k_met (by decide) (Nat.le_of_ble_eq_true rfl) ?_
  intro p e s m below meth c A ls hC hr hlk hnm hN hK hA hP hD hS hl
  have hl : lv_has ls 4 [(0, .ref a0), (1, .int x0)] := hl
  obtain ⟨hx, hb, hml, hown, hts⟩ := id hC
  refine lv_aload_n hx hb dX9_known_0 rfl (lv_at hl 0 rfl) ?_
  refine k_get hC hK hP iX9 0 0 wf_X9_10 rfl (by decide) rfl rfl dX9_known_1 ?_
  refine k_ci (wr := [(a0, .inr (9, [.ref a1, .ref a2, .ref a3, .int 0, .int 0, .ref a4, .ref a5, .ref a6, .ref a7])), (a17, .inr (8, [.ref a19, .ref a20, .ref a21, .ref a22, .ref a23, .ref a24, .ref a25, .int 0])), (a3, .inr (8, [.ref a26, .ref a27, .ref a28, .ref a29, .ref a30, .ref a31, .ref a32, .int 0])), (a5, .inr (0, [.ref a33, .int 0, .int 0, .long 0, .int 0, .int 0, .long 0])), (a4, .inr (4, [.ref a34, .ref a5, .ref a35, .ref a36, .ref a37, .ref a38, .ref a39, .int 100, .int 0, .int 0, .int (-1)])), (a35, .inr (8, [.ref a40, .ref a41, .ref a42, .ref a43, .ref a44, .ref a45, .ref a46, .int 0])), (a36, .inl (cI, 7, .inl (fun _ => 0))), (a33, .inl (cJ, 256, .inr (.inl (fun _ => 0))))]) (k_rV hC hN hK hP hD (c49_X7_ways l G cI cJ cB cZ a1 a8 a9 a10 a11 a12 a13 a14 a15 a16 a17 a18) [1, 2, 3] rfl (by decide) mi_X7_ways in_X7_ways se_X7_ways wm_X9_264 7 1 rfl rfl rfl hl.1 rfl rfl (Nat.le_of_ble_eq_true rfl) ⟨(Nat.le_of_ble_eq_true rfl), (Nat.le_of_ble_eq_true rfl)⟩ dX9_known_4 ⟨(Nat.le_of_ble_eq_true rfl), (Nat.le_of_ble_eq_true rfl)⟩) hP hD hS hA [1, 2, 3] [0, 4, 5, 6, 7, 8, 9, 10] rfl rfl (by decide) (by decide) (fun r1 u1 H locs hp hP hD hS => ?_)
  have hP : va_P G cl [(a0, .inr (9, [.ref a1, .ref a2, .ref a3, .int 0, .int 0, .ref a4, .ref a5, .ref a6, .ref a7])), (a17, .inr (8, [.ref a19, .ref a20, .ref a21, .ref a22, .ref a23, .ref a24, .ref a25, .int 0])), (a3, .inr (8, [.ref a26, .ref a27, .ref a28, .ref a29, .ref a30, .ref a31, .ref a32, .int 0])), (a5, .inr (0, [.ref a33, .int 0, .int 0, .long 0, .int 0, .int 0, .long 0])), (a4, .inr (4, [.ref a34, .ref a5, .ref a35, .ref a36, .ref a37, .ref a38, .ref a39, .int 100, .int 0, .int 0, .int (-1)])), (a35, .inr (8, [.ref a40, .ref a41, .ref a42, .ref a43, .ref a44, .ref a45, .ref a46, .int 0])), (a36, .inl (cI, 7, .inl (fun _ => 0))), (a33, .inl (cJ, 256, .inr (.inl (fun _ => 0)))), (a1, .inr (7, [.int 100, .int 100, .int 0, .ref a8, .ref a9, .int 0, .ref a10, .ref a11, .ref a12, .ref a13, .ref a14, .ref a15, .ref a16, .ref a17, .ref a18])), (a9, .inl (cI, 2, .inl (upd (upd (fun _ => 0) 0 16) 1 16))), (a8, .inl (cI, 2, .inl (upd (upd (fun _ => 0) 0 16) 1 16)))] H := hP
  have hD : va_D A [(a0, .inr (9, [.ref a1, .ref a2, .ref a3, .int 0, .int 0, .ref a4, .ref a5, .ref a6, .ref a7])), (a17, .inr (8, [.ref a19, .ref a20, .ref a21, .ref a22, .ref a23, .ref a24, .ref a25, .int 0])), (a3, .inr (8, [.ref a26, .ref a27, .ref a28, .ref a29, .ref a30, .ref a31, .ref a32, .int 0])), (a5, .inr (0, [.ref a33, .int 0, .int 0, .long 0, .int 0, .int 0, .long 0])), (a4, .inr (4, [.ref a34, .ref a5, .ref a35, .ref a36, .ref a37, .ref a38, .ref a39, .int 100, .int 0, .int 0, .int (-1)])), (a35, .inr (8, [.ref a40, .ref a41, .ref a42, .ref a43, .ref a44, .ref a45, .ref a46, .int 0])), (a36, .inl (cI, 7, .inl (fun _ => 0))), (a33, .inl (cJ, 256, .inr (.inl (fun _ => 0)))), (a1, .inr (7, [.int 100, .int 100, .int 0, .ref a8, .ref a9, .int 0, .ref a10, .ref a11, .ref a12, .ref a13, .ref a14, .ref a15, .ref a16, .ref a17, .ref a18])), (a9, .inl (cI, 2, .inl (upd (upd (fun _ => 0) 0 16) 1 16))), (a8, .inl (cI, 2, .inl (upd (upd (fun _ => 0) 0 16) 1 16)))] := hD
  subst hp
  refine lv_ldcw (v := 300000) hx hb hown (hts _ kc_X9_292) dX9_known_7 ?_
  refine lv_icmp_le (tgt := 16) hx hb dX9_known_10 (by decide) (fun _ => ?_) (fun c_ => absurd (by decide +kernel) c_)
  refine lv_aload_n hx hb dX9_known_16 rfl (lv_at hl 0 rfl) ?_
  refine lv_iload_n hx hb dX9_known_17 rfl (lv_at hl 1 rfl) ?_
  refine k_cl (wr := [(a5, .inr (0, [.ref a33, .int 0, .int 0, .long 0, .int 0, .int 0, .long 0])), (a4, .inr (4, [.ref a34, .ref a5, .ref a35, .ref a36, .ref a37, .ref a38, .ref a39, .int 100, .int 0, .int 0, .int (-1)])), (a35, .inr (8, [.ref a40, .ref a41, .ref a42, .ref a43, .ref a44, .ref a45, .ref a46, .int 0])), (a36, .inl (cI, 7, .inl (fun _ => 0))), (a33, .inl (cJ, 256, .inr (.inl (fun _ => 0)))), (a9, .inl (cI, 2, .inl (upd (upd (fun _ => 0) 0 16) 1 16))), (a8, .inl (cI, 2, .inl (upd (upd (fun _ => 0) 0 16) 1 16)))]) (k_rV hC hN hK hP hD (c50_X9_countingAt l G cI cJ cB cZ a0 a1 a2 a3 a4 a5 a6 a7 a8 a9 a10 a11 a12 a13 a14 a15 a16 a17 a18 a19 a20 a21 a22 a23 a24 a25 a26 a27 a28 a29 a30 a31 a32 x0) [0, 8, 1, 2] rfl (by decide) mi_X9_countingAt in_X9_countingAt se_X9_countingAt wm_X9_267 9 0 rfl rfl rfl hl.1 rfl rfl (Nat.le_of_ble_eq_true rfl) ⟨(Nat.le_of_ble_eq_true rfl), (Nat.le_of_ble_eq_true rfl)⟩ dX9_known_18 ⟨(Nat.le_of_ble_eq_true rfl), (Nat.le_of_ble_eq_true rfl)⟩) hP hD hS hA [0, 8, 1, 2] [3, 4, 5, 6, 7, 9, 10] rfl rfl (by decide) (by decide) (fun r2 u2 H locs hp hP hD hS => ?_)
  have hP : va_P G cl [(a5, .inr (0, [.ref a33, .int 0, .int 0, .long 0, .int 0, .int 0, .long 0])), (a4, .inr (4, [.ref a34, .ref a5, .ref a35, .ref a36, .ref a37, .ref a38, .ref a39, .int 100, .int 0, .int 0, .int (-1)])), (a35, .inr (8, [.ref a40, .ref a41, .ref a42, .ref a43, .ref a44, .ref a45, .ref a46, .int 0])), (a36, .inl (cI, 7, .inl (fun _ => 0))), (a33, .inl (cJ, 256, .inr (.inl (fun _ => 0)))), (a9, .inl (cI, 2, .inl (upd (upd (fun _ => 0) 0 16) 1 16))), (a8, .inl (cI, 2, .inl (upd (upd (fun _ => 0) 0 16) 1 16))), (a0, .inr (9, [.ref a1, .ref a2, .ref a3, .int 0, .int 0, .ref a4, .ref a5, .ref a6, .ref a7])), (a1, .inr (7, [.int 100, .int 100, .int 0, .ref a8, .ref a9, .int 0, .ref a10, .ref a11, .ref a12, .ref a13, .ref a14, .ref a15, .ref a16, .ref a17, .ref a18])), (a17, .inr (8, [.ref a19, .ref a20, .ref a21, .ref a22, .ref a23, .ref a24, .ref a25, .int 0])), (a3, .inr (8, [.ref a26, .ref a27, .ref a28, .ref a29, .ref a30, .ref a31, .ref a32, .int 0]))] H := hP
  have hD : va_D A [(a5, .inr (0, [.ref a33, .int 0, .int 0, .long 0, .int 0, .int 0, .long 0])), (a4, .inr (4, [.ref a34, .ref a5, .ref a35, .ref a36, .ref a37, .ref a38, .ref a39, .int 100, .int 0, .int 0, .int (-1)])), (a35, .inr (8, [.ref a40, .ref a41, .ref a42, .ref a43, .ref a44, .ref a45, .ref a46, .int 0])), (a36, .inl (cI, 7, .inl (fun _ => 0))), (a33, .inl (cJ, 256, .inr (.inl (fun _ => 0)))), (a9, .inl (cI, 2, .inl (upd (upd (fun _ => 0) 0 16) 1 16))), (a8, .inl (cI, 2, .inl (upd (upd (fun _ => 0) 0 16) 1 16))), (a0, .inr (9, [.ref a1, .ref a2, .ref a3, .int 0, .int 0, .ref a4, .ref a5, .ref a6, .ref a7])), (a1, .inr (7, [.int 100, .int 100, .int 0, .ref a8, .ref a9, .int 0, .ref a10, .ref a11, .ref a12, .ref a13, .ref a14, .ref a15, .ref a16, .ref a17, .ref a18])), (a17, .inr (8, [.ref a19, .ref a20, .ref a21, .ref a22, .ref a23, .ref a24, .ref a25, .int 0])), (a3, .inr (8, [.ref a26, .ref a27, .ref a28, .ref a29, .ref a30, .ref a31, .ref a32, .int 0]))] := hD
  subst hp
  refine lv_lstore_n (lv' := [(2, .long 0), (0, .ref a0), (1, .int x0)]) hx hb dX9_known_21 rfl hl (by decide) rfl (fun ls hl => ?_)
  refine lv_aload_n hx hb dX9_known_22 rfl (lv_at hl 1 rfl) ?_
  refine k_get hC hK hP iX9 7 6 wf_X9_50 rfl (by decide) rfl rfl dX9_known_23 ?_
  refine lv_lload_n hx hb dX9_known_26 rfl (lv_at hl 0 rfl) ?_
  refine k_ci (wr := [(a4, .inr (4, [.ref a34, .ref a5, .ref a35, .ref a36, .ref a37, .ref a38, .ref a39, .int 100, .int 0, .int 0, .int (-1)])), (a35, .inr (8, [.ref a40, .ref a41, .ref a42, .ref a43, .ref a44, .ref a45, .ref a46, .int 0])), (a36, .inl (cI, 7, .inl (fun _ => 0))), (a33, .inl (cJ, 256, .inr (.inl (fun _ => 0)))), (a9, .inl (cI, 2, .inl (upd (upd (fun _ => 0) 0 16) 1 16))), (a8, .inl (cI, 2, .inl (upd (upd (fun _ => 0) 0 16) 1 16))), (a0, .inr (9, [.ref a1, .ref a2, .ref a3, .int 0, .int 0, .ref a4, .ref a5, .ref a6, .ref a7])), (a1, .inr (7, [.int 100, .int 100, .int 0, .ref a8, .ref a9, .int 0, .ref a10, .ref a11, .ref a12, .ref a13, .ref a14, .ref a15, .ref a16, .ref a17, .ref a18])), (a17, .inr (8, [.ref a19, .ref a20, .ref a21, .ref a22, .ref a23, .ref a24, .ref a25, .int 0])), (a3, .inr (8, [.ref a26, .ref a27, .ref a28, .ref a29, .ref a30, .ref a31, .ref a32, .int 0]))]) (k_rV hC hN hK hP hD (c51_X0_isOf l G cI cJ cB cZ a5 a33) [0] rfl (by decide) mi_X0_isOf in_X0_isOf se_X0_isOf wm_X9_293 0 0 rfl rfl rfl hl.1 rfl rfl (Nat.le_of_ble_eq_true rfl) ⟨(Nat.le_of_ble_eq_true rfl), (Nat.le_of_ble_eq_true rfl)⟩ dX9_known_27 ⟨(Nat.le_of_ble_eq_true rfl), (Nat.le_of_ble_eq_true rfl)⟩) hP hD hS hA [0] [1, 2, 3, 4, 5, 6, 7, 8, 9, 10] rfl rfl (by decide) (by decide) (fun r3 u3 H locs hp hP hD hS => ?_)
  have hP : va_P G cl [(a4, .inr (4, [.ref a34, .ref a5, .ref a35, .ref a36, .ref a37, .ref a38, .ref a39, .int 100, .int 0, .int 0, .int (-1)])), (a35, .inr (8, [.ref a40, .ref a41, .ref a42, .ref a43, .ref a44, .ref a45, .ref a46, .int 0])), (a36, .inl (cI, 7, .inl (fun _ => 0))), (a33, .inl (cJ, 256, .inr (.inl (fun _ => 0)))), (a9, .inl (cI, 2, .inl (upd (upd (fun _ => 0) 0 16) 1 16))), (a8, .inl (cI, 2, .inl (upd (upd (fun _ => 0) 0 16) 1 16))), (a0, .inr (9, [.ref a1, .ref a2, .ref a3, .int 0, .int 0, .ref a4, .ref a5, .ref a6, .ref a7])), (a1, .inr (7, [.int 100, .int 100, .int 0, .ref a8, .ref a9, .int 0, .ref a10, .ref a11, .ref a12, .ref a13, .ref a14, .ref a15, .ref a16, .ref a17, .ref a18])), (a17, .inr (8, [.ref a19, .ref a20, .ref a21, .ref a22, .ref a23, .ref a24, .ref a25, .int 0])), (a3, .inr (8, [.ref a26, .ref a27, .ref a28, .ref a29, .ref a30, .ref a31, .ref a32, .int 0])), (a5, .inr (0, [.ref a33, .int 0, .int 0, .long 0, .int 0, .int 0, .long 0]))] H := hP
  have hD : va_D A [(a4, .inr (4, [.ref a34, .ref a5, .ref a35, .ref a36, .ref a37, .ref a38, .ref a39, .int 100, .int 0, .int 0, .int (-1)])), (a35, .inr (8, [.ref a40, .ref a41, .ref a42, .ref a43, .ref a44, .ref a45, .ref a46, .int 0])), (a36, .inl (cI, 7, .inl (fun _ => 0))), (a33, .inl (cJ, 256, .inr (.inl (fun _ => 0)))), (a9, .inl (cI, 2, .inl (upd (upd (fun _ => 0) 0 16) 1 16))), (a8, .inl (cI, 2, .inl (upd (upd (fun _ => 0) 0 16) 1 16))), (a0, .inr (9, [.ref a1, .ref a2, .ref a3, .int 0, .int 0, .ref a4, .ref a5, .ref a6, .ref a7])), (a1, .inr (7, [.int 100, .int 100, .int 0, .ref a8, .ref a9, .int 0, .ref a10, .ref a11, .ref a12, .ref a13, .ref a14, .ref a15, .ref a16, .ref a17, .ref a18])), (a17, .inr (8, [.ref a19, .ref a20, .ref a21, .ref a22, .ref a23, .ref a24, .ref a25, .int 0])), (a3, .inr (8, [.ref a26, .ref a27, .ref a28, .ref a29, .ref a30, .ref a31, .ref a32, .int 0])), (a5, .inr (0, [.ref a33, .int 0, .int 0, .long 0, .int 0, .int 0, .long 0]))] := hD
  subst hp
  refine lv_if_ne (tgt := 65) hx hb dX9_known_30 (by decide) (fun c_ => absurd (by decide +kernel) c_) (fun _ => ?_)
  refine lv_aload_n hx hb dX9_known_33 rfl (lv_at hl 1 rfl) ?_
  refine k_get hC hK hP iX9 6 6 wf_X9_50 rfl (by decide) rfl rfl dX9_known_34 ?_
  refine lv_lload_n hx hb dX9_known_37 rfl (lv_at hl 0 rfl) ?_
  refine k_cv (wr := [(a4, .inr (4, [.ref a34, .ref a5, .ref a35, .ref a36, .ref a37, .ref a38, .ref a39, .int 100, .int 0, .int 0, .int (-1)])), (a35, .inr (8, [.ref a40, .ref a41, .ref a42, .ref a43, .ref a44, .ref a45, .ref a46, .int 0])), (a36, .inl (cI, 7, .inl (fun _ => 0))), (a33, .inl (cJ, 256, .inr (.inl (fun _ => 0)))), (a9, .inl (cI, 2, .inl (upd (upd (fun _ => 0) 0 16) 1 16))), (a8, .inl (cI, 2, .inl (upd (upd (fun _ => 0) 0 16) 1 16))), (a0, .inr (9, [.ref a1, .ref a2, .ref a3, .int 0, .int 0, .ref a4, .ref a5, .ref a6, .ref a7])), (a1, .inr (7, [.int 100, .int 100, .int 0, .ref a8, .ref a9, .int 0, .ref a10, .ref a11, .ref a12, .ref a13, .ref a14, .ref a15, .ref a16, .ref a17, .ref a18])), (a17, .inr (8, [.ref a19, .ref a20, .ref a21, .ref a22, .ref a23, .ref a24, .ref a25, .int 0])), (a3, .inr (8, [.ref a26, .ref a27, .ref a28, .ref a29, .ref a30, .ref a31, .ref a32, .int 0]))]) (k_rV hC hN hK hP hD (c52_X0_restart l G cI cJ cB cZ a5 a33) [10] rfl (by decide) mi_X0_restart in_X0_restart se_X0_restart wm_X9_297 0 10 rfl rfl rfl hl.1 rfl rfl (Nat.le_of_ble_eq_true rfl) ⟨(Nat.le_of_ble_eq_true rfl), (Nat.le_of_ble_eq_true rfl)⟩ dX9_known_38 ⟨(Nat.le_of_ble_eq_true rfl), (Nat.le_of_ble_eq_true rfl)⟩) hP hD hS hA [10] [0, 1, 2, 3, 4, 5, 6, 7, 8, 9] rfl rfl (by decide) (by decide) (fun u4 H locs hp hP hD hS => ?_)
  have hP : va_P G cl [(a4, .inr (4, [.ref a34, .ref a5, .ref a35, .ref a36, .ref a37, .ref a38, .ref a39, .int 100, .int 0, .int 0, .int (-1)])), (a35, .inr (8, [.ref a40, .ref a41, .ref a42, .ref a43, .ref a44, .ref a45, .ref a46, .int 0])), (a36, .inl (cI, 7, .inl (fun _ => 0))), (a33, .inl (cJ, 256, .inr (.inl (fun _ => 0)))), (a9, .inl (cI, 2, .inl (upd (upd (fun _ => 0) 0 16) 1 16))), (a8, .inl (cI, 2, .inl (upd (upd (fun _ => 0) 0 16) 1 16))), (a0, .inr (9, [.ref a1, .ref a2, .ref a3, .int 0, .int 0, .ref a4, .ref a5, .ref a6, .ref a7])), (a1, .inr (7, [.int 100, .int 100, .int 0, .ref a8, .ref a9, .int 0, .ref a10, .ref a11, .ref a12, .ref a13, .ref a14, .ref a15, .ref a16, .ref a17, .ref a18])), (a17, .inr (8, [.ref a19, .ref a20, .ref a21, .ref a22, .ref a23, .ref a24, .ref a25, .int 0])), (a3, .inr (8, [.ref a26, .ref a27, .ref a28, .ref a29, .ref a30, .ref a31, .ref a32, .int 0])), (a5, .inr (0, [.ref a33, .int 0, .int 1, .long 0, .int 1, .int 0, .long 0]))] H := hP
  have hD : va_D A [(a4, .inr (4, [.ref a34, .ref a5, .ref a35, .ref a36, .ref a37, .ref a38, .ref a39, .int 100, .int 0, .int 0, .int (-1)])), (a35, .inr (8, [.ref a40, .ref a41, .ref a42, .ref a43, .ref a44, .ref a45, .ref a46, .int 0])), (a36, .inl (cI, 7, .inl (fun _ => 0))), (a33, .inl (cJ, 256, .inr (.inl (fun _ => 0)))), (a9, .inl (cI, 2, .inl (upd (upd (fun _ => 0) 0 16) 1 16))), (a8, .inl (cI, 2, .inl (upd (upd (fun _ => 0) 0 16) 1 16))), (a0, .inr (9, [.ref a1, .ref a2, .ref a3, .int 0, .int 0, .ref a4, .ref a5, .ref a6, .ref a7])), (a1, .inr (7, [.int 100, .int 100, .int 0, .ref a8, .ref a9, .int 0, .ref a10, .ref a11, .ref a12, .ref a13, .ref a14, .ref a15, .ref a16, .ref a17, .ref a18])), (a17, .inr (8, [.ref a19, .ref a20, .ref a21, .ref a22, .ref a23, .ref a24, .ref a25, .int 0])), (a3, .inr (8, [.ref a26, .ref a27, .ref a28, .ref a29, .ref a30, .ref a31, .ref a32, .int 0])), (a5, .inr (0, [.ref a33, .int 0, .int 1, .long 0, .int 1, .int 0, .long 0]))] := hD
  refine lv_aload_n hx hb dX9_known_41 rfl (lv_at hl 1 rfl) ?_
  refine k_get hC hK hP iX9 6 5 wf_X9_42 rfl (by decide) rfl rfl dX9_known_42 ?_
  refine lv_aload_n hx hb dX9_known_45 rfl (lv_at hl 1 rfl) ?_
  refine k_get hC hK hP iX9 6 0 wf_X9_10 rfl (by decide) rfl rfl dX9_known_46 ?_
  refine lv_aload_n hx hb dX9_known_49 rfl (lv_at hl 1 rfl) ?_
  refine k_get hC hK hP iX9 6 2 wf_X9_28 rfl (by decide) rfl rfl dX9_known_50 ?_
  refine lv_lload_n hx hb dX9_known_53 rfl (lv_at hl 0 rfl) ?_
  refine k_cv (wr := [(a33, .inl (cJ, 256, .inr (.inl (fun _ => 0)))), (a9, .inl (cI, 2, .inl (upd (upd (fun _ => 0) 0 16) 1 16))), (a8, .inl (cI, 2, .inl (upd (upd (fun _ => 0) 0 16) 1 16))), (a0, .inr (9, [.ref a1, .ref a2, .ref a3, .int 0, .int 0, .ref a4, .ref a5, .ref a6, .ref a7])), (a5, .inr (0, [.ref a33, .int 0, .int 1, .long 0, .int 1, .int 0, .long 0]))]) (k_rV hC hN hK hP hD (c59_X4_gather l G cI cJ cB cZ a4 a1 a3 a34 a5 a35 a36 a37 a38 a39 a40 a41 a42 a43 a44 a45 a46 a8 a9 a10 a11 a12 a13 a14 a15 a16 a17 a18 a19 a20 a21 a22 a23 a24 a25 a26 a27 a28 a29 a30 a31 a32) [0, 1, 2, 7, 8, 9] rfl (by decide) mi_X4_gather in_X4_gather se_X4_gather wm_X9_270 4 0 rfl rfl rfl hl.1 rfl rfl (Nat.le_of_ble_eq_true rfl) ⟨(Nat.le_of_ble_eq_true rfl), (Nat.le_of_ble_eq_true rfl)⟩ dX9_known_54 ⟨(Nat.le_of_ble_eq_true rfl), (Nat.le_of_ble_eq_true rfl)⟩) hP hD hS hA [0, 1, 2, 7, 8, 9] [3, 4, 5, 6, 10] rfl rfl (by decide) (by decide) (fun u5 H locs hp hP hD hS => ?_)
  have hP : va_P G cl [(a33, .inl (cJ, 256, .inr (.inl (fun _ => 0)))), (a9, .inl (cI, 2, .inl (upd (upd (fun _ => 0) 0 16) 1 16))), (a8, .inl (cI, 2, .inl (upd (upd (fun _ => 0) 0 16) 1 16))), (a0, .inr (9, [.ref a1, .ref a2, .ref a3, .int 0, .int 0, .ref a4, .ref a5, .ref a6, .ref a7])), (a5, .inr (0, [.ref a33, .int 0, .int 1, .long 0, .int 1, .int 0, .long 0])), (a4, .inr (4, [.ref a1, .ref a5, .ref a35, .ref a36, .ref a37, .ref a38, .ref a39, .int 100, .int 0, .int 0, .int (-1)])), (a35, .inr (8, [.ref a40, .ref a41, .ref a42, .ref a43, .ref a44, .ref a45, .ref a46, .int 0])), (a36, .inl (cI, 7, .inl (fun _ => 0))), (a1, .inr (7, [.int 100, .int 100, .int 0, .ref a8, .ref a9, .int 0, .ref a10, .ref a11, .ref a12, .ref a13, .ref a14, .ref a15, .ref a16, .ref a17, .ref a18])), (a17, .inr (8, [.ref a19, .ref a20, .ref a21, .ref a22, .ref a23, .ref a24, .ref a25, .int 0])), (a3, .inr (8, [.ref a26, .ref a27, .ref a28, .ref a29, .ref a30, .ref a31, .ref a32, .int 0]))] H := hP
  have hD : va_D A [(a33, .inl (cJ, 256, .inr (.inl (fun _ => 0)))), (a9, .inl (cI, 2, .inl (upd (upd (fun _ => 0) 0 16) 1 16))), (a8, .inl (cI, 2, .inl (upd (upd (fun _ => 0) 0 16) 1 16))), (a0, .inr (9, [.ref a1, .ref a2, .ref a3, .int 0, .int 0, .ref a4, .ref a5, .ref a6, .ref a7])), (a5, .inr (0, [.ref a33, .int 0, .int 1, .long 0, .int 1, .int 0, .long 0])), (a4, .inr (4, [.ref a1, .ref a5, .ref a35, .ref a36, .ref a37, .ref a38, .ref a39, .int 100, .int 0, .int 0, .int (-1)])), (a35, .inr (8, [.ref a40, .ref a41, .ref a42, .ref a43, .ref a44, .ref a45, .ref a46, .int 0])), (a36, .inl (cI, 7, .inl (fun _ => 0))), (a1, .inr (7, [.int 100, .int 100, .int 0, .ref a8, .ref a9, .int 0, .ref a10, .ref a11, .ref a12, .ref a13, .ref a14, .ref a15, .ref a16, .ref a17, .ref a18])), (a17, .inr (8, [.ref a19, .ref a20, .ref a21, .ref a22, .ref a23, .ref a24, .ref a25, .int 0])), (a3, .inr (8, [.ref a26, .ref a27, .ref a28, .ref a29, .ref a30, .ref a31, .ref a32, .int 0]))] := hD
  refine lv_aload_n hx hb dX9_known_57 rfl (lv_at hl 1 rfl) ?_
  refine k_get hC hK hP iX9 3 5 wf_X9_42 rfl (by decide) rfl rfl dX9_known_58 ?_
  refine lv_iconst (v := 0) hx hb dX9_known_61 (by decide) ?_
  refine k_cv (wr := [(a0, .inr (9, [.ref a1, .ref a2, .ref a3, .int 0, .int 0, .ref a4, .ref a5, .ref a6, .ref a7])), (a35, .inr (8, [.ref a40, .ref a41, .ref a42, .ref a43, .ref a44, .ref a45, .ref a46, .int 0])), (a36, .inl (cI, 7, .inl (fun _ => 0))), (a17, .inr (8, [.ref a19, .ref a20, .ref a21, .ref a22, .ref a23, .ref a24, .ref a25, .int 0])), (a3, .inr (8, [.ref a26, .ref a27, .ref a28, .ref a29, .ref a30, .ref a31, .ref a32, .int 0]))]) (k_rV hC hN hK hP hD (c64_X4_goThrough l G cI cJ cB cZ a4 a1 a5 a35 a36 a37 a38 a39 a8 a9 a10 a11 a12 a13 a14 a15 a16 a17 a18 a33) [5, 8, 2, 1, 4, 0] rfl (by decide) mi_X4_goThrough in_X4_goThrough se_X4_goThrough wm_X9_282 4 5 rfl rfl rfl hl.1 rfl rfl (Nat.le_of_ble_eq_true rfl) ⟨(Nat.le_of_ble_eq_true rfl), (Nat.le_of_ble_eq_true rfl)⟩ dX9_known_62 ⟨(Nat.le_of_ble_eq_true rfl), (Nat.le_of_ble_eq_true rfl)⟩) hP hD hS hA [5, 8, 2, 1, 4, 0] [3, 6, 7, 9, 10] rfl rfl (by decide) (by decide) (fun u6 H locs hp hP hD hS => ?_)
  have hP : va_P G cl [(a0, .inr (9, [.ref a1, .ref a2, .ref a3, .int 0, .int 0, .ref a4, .ref a5, .ref a6, .ref a7])), (a35, .inr (8, [.ref a40, .ref a41, .ref a42, .ref a43, .ref a44, .ref a45, .ref a46, .int 0])), (a36, .inl (cI, 7, .inl (fun _ => 0))), (a17, .inr (8, [.ref a19, .ref a20, .ref a21, .ref a22, .ref a23, .ref a24, .ref a25, .int 0])), (a3, .inr (8, [.ref a26, .ref a27, .ref a28, .ref a29, .ref a30, .ref a31, .ref a32, .int 0])), (a4, .inr (4, [.ref a1, .ref a5, .ref a35, .ref a36, .ref a37, .ref a38, .ref a39, .int 100, .int 0, .int 0, .int (-1)])), (a1, .inr (7, [.int 100, .int 100, .int 0, .ref a8, .ref a9, .int 0, .ref a10, .ref a11, .ref a12, .ref a13, .ref a14, .ref a15, .ref a16, .ref a17, .ref a18])), (a8, .inl (cI, 2, .inl (upd (upd (fun _ => 0) 0 16) 1 16))), (a9, .inl (cI, 2, .inl (upd (upd (fun _ => 0) 0 16) 1 16))), (a5, .inr (0, [.ref a33, .int 1, .int 1, .long 0, .int 1, .int 0, .long 0])), (a33, .inl (cJ, 256, .inr (.inl (vp_updL (fun _ => 0) 0 0))))] H := hP
  have hD : va_D A [(a0, .inr (9, [.ref a1, .ref a2, .ref a3, .int 0, .int 0, .ref a4, .ref a5, .ref a6, .ref a7])), (a35, .inr (8, [.ref a40, .ref a41, .ref a42, .ref a43, .ref a44, .ref a45, .ref a46, .int 0])), (a36, .inl (cI, 7, .inl (fun _ => 0))), (a17, .inr (8, [.ref a19, .ref a20, .ref a21, .ref a22, .ref a23, .ref a24, .ref a25, .int 0])), (a3, .inr (8, [.ref a26, .ref a27, .ref a28, .ref a29, .ref a30, .ref a31, .ref a32, .int 0])), (a4, .inr (4, [.ref a1, .ref a5, .ref a35, .ref a36, .ref a37, .ref a38, .ref a39, .int 100, .int 0, .int 0, .int (-1)])), (a1, .inr (7, [.int 100, .int 100, .int 0, .ref a8, .ref a9, .int 0, .ref a10, .ref a11, .ref a12, .ref a13, .ref a14, .ref a15, .ref a16, .ref a17, .ref a18])), (a8, .inl (cI, 2, .inl (upd (upd (fun _ => 0) 0 16) 1 16))), (a9, .inl (cI, 2, .inl (upd (upd (fun _ => 0) 0 16) 1 16))), (a5, .inr (0, [.ref a33, .int 1, .int 1, .long 0, .int 1, .int 0, .long 0])), (a33, .inl (cJ, 256, .inr (.inl (vp_updL (fun _ => 0) 0 0))))] := hD
  refine lv_aload_n hx hb dX9_known_65 rfl (lv_at hl 1 rfl) ?_
  refine k_get hC hK hP iX9 0 6 wf_X9_50 rfl (by decide) rfl rfl dX9_known_66 ?_
  refine k_getN hC hN hK hP iX0 9 1 wf_X9_301 rfl (by decide) rfl rfl dX9_known_69 ?_
  exact k_iret hC hr hlk hK hP hD hS () [0, 6, 8, 7, 3, 4, 9, 5, 1, 2, 10] rfl (by decide) rfl (Nat.le_of_ble_eq_true rfl) (Nat.le_of_ble_eq_true rfl) dX9_known_72
theorem dX9_fits_0 : decode cX9_fits 0 = .ok (.aload_n 0, 1) := by decide +kernel
theorem dX9_fits_1 : decode cX9_fits 1 = .ok (.iload_n 1, 1) := by decide +kernel
theorem dX9_fits_2 : decode cX9_fits 2 = .ok (.invokevirtual 125, 3) := by decide +kernel
set_option maxRecDepth 100000 in
theorem wm_X9_125 : Cond.methodLink RX9 125 yX9_known ∈ gw := gm (List.mem_of_getElem? (i := 786) (by decide +kernel)) rfl
set_option maxRecDepth 100000 in
theorem mi_X9_known : MI yX9_known cX9_known 4 (some .int) 1 := ⟨gm (List.mem_of_getElem? (i := 789) rfl) rfl, gm (List.mem_of_getElem? (i := 112) (by decide +kernel)) rfl, by decide, by decide, by decide +kernel⟩
set_option maxRecDepth 100000 in
theorem in_X9_known : Cond.instanceMethod yX9_known ∈ gw := gm (List.mem_of_getElem? (i := 788) (by decide +kernel)) rfl
set_option maxRecDepth 100000 in
theorem se_X9_known : Cond.selects yX9_known.cls yX9_known yX9_known ∈ gw := gm (List.mem_of_getElem? (i := 22) (by decide +kernel)) rfl
theorem dX9_fits_5 : decode cX9_fits 5 = .ok (.ireturn, 1) := by decide +kernel
set_option maxHeartbeats 4000000 in
set_option maxRecDepth 100000 in
theorem c66_X9_fits (l : Launch) (G : va_G) (cI cJ cB cZ : ClassId) (a0 a1 a2 a3 a4 a5 a6 a7 a8 a9 a10 a11 a12 a13 a14 a15 a16 a17 a18 a19 a20 a21 a22 a23 a24 a25 a26 a27 a28 a29 a30 a31 a32 a33 a34 a35 a36 a37 a38 a39 a40 a41 a42 a43 a44 a45 a46 : Nat) (x0 : Int32) : Con l G (TY cI cJ cB cZ) yX9_fits cX9_fits 2 (some .int) ({ frames := 4, cells := 0, slots := 0, locals := 94 } : Room) [.ref a0, .int x0] [(a0, .inr (9, [.ref a1, .ref a2, .ref a3, .int 0, .int 0, .ref a4, .ref a5, .ref a6, .ref a7])), (a1, .inr (7, [.int 100, .int 100, .int 0, .ref a8, .ref a9, .int 0, .ref a10, .ref a11, .ref a12, .ref a13, .ref a14, .ref a15, .ref a16, .ref a17, .ref a18])), (a9, .inl (cI, 2, .inl (upd (upd (fun _ => 0) 0 16) 1 16))), (a8, .inl (cI, 2, .inl (upd (upd (fun _ => 0) 0 16) 1 16))), (a17, .inr (8, [.ref a19, .ref a20, .ref a21, .ref a22, .ref a23, .ref a24, .ref a25, .int 0])), (a3, .inr (8, [.ref a26, .ref a27, .ref a28, .ref a29, .ref a30, .ref a31, .ref a32, .int 0])), (a5, .inr (0, [.ref a33, .int 0, .int 0, .long 0, .int 0, .int 0, .long 0])), (a4, .inr (4, [.ref a34, .ref a5, .ref a35, .ref a36, .ref a37, .ref a38, .ref a39, .int 100, .int 0, .int 0, .int (-1)])), (a35, .inr (8, [.ref a40, .ref a41, .ref a42, .ref a43, .ref a44, .ref a45, .ref a46, .int 0])), (a36, .inl (cI, 7, .inl (fun _ => 0))), (a33, .inl (cJ, 256, .inr (.inl (fun _ => 0))))] (QI G (TY cI cJ cB cZ) (fun (r : Int32) (u : Unit) => r = 1) (fun u : Unit => [])) := by
  refine k_met (by decide) (Nat.le_of_ble_eq_true rfl) ?_
  intro p e s m below meth c A ls hC hr hlk hnm hN hK hA hP hD hS hl
  have hl : lv_has ls 2 [(0, .ref a0), (1, .int x0)] := hl
  obtain ⟨hx, hb, hml, hown, hts⟩ := id hC
  refine lv_aload_n hx hb dX9_fits_0 rfl (lv_at hl 0 rfl) ?_
  refine lv_iload_n hx hb dX9_fits_1 rfl (lv_at hl 1 rfl) ?_
  refine k_ci (wr := []) (k_rV hC hN hK hP hD (c65_X9_known l G cI cJ cB cZ a0 a1 a2 a3 a4 a5 a6 a7 a8 a9 a10 a11 a12 a13 a14 a15 a16 a17 a18 a19 a20 a21 a22 a23 a24 a25 a26 a27 a28 a29 a30 a31 a32 a33 a34 a35 a36 a37 a38 a39 a40 a41 a42 a43 a44 a45 a46 x0) [0, 1, 2, 3, 4, 5, 6, 7, 8, 9, 10] rfl (by decide) mi_X9_known in_X9_known se_X9_known wm_X9_125 9 0 rfl rfl rfl hl.1 rfl rfl (Nat.le_of_ble_eq_true rfl) ⟨(Nat.le_of_ble_eq_true rfl), (Nat.le_of_ble_eq_true rfl)⟩ dX9_fits_2 ⟨(Nat.le_of_ble_eq_true rfl), (Nat.le_of_ble_eq_true rfl)⟩) hP hD hS hA [0, 1, 2, 3, 4, 5, 6, 7, 8, 9, 10] [] rfl rfl (by decide) (by decide) (fun r1 u1 H locs hp hP hD hS => ?_)
  have hP : va_P G cl [(a0, .inr (9, [.ref a1, .ref a2, .ref a3, .int 0, .int 0, .ref a4, .ref a5, .ref a6, .ref a7])), (a1, .inr (7, [.int 100, .int 100, .int 0, .ref a8, .ref a9, .int 0, .ref a10, .ref a11, .ref a12, .ref a13, .ref a14, .ref a15, .ref a16, .ref a17, .ref a18])), (a9, .inl (cI, 2, .inl (upd (upd (fun _ => 0) 0 16) 1 16))), (a8, .inl (cI, 2, .inl (upd (upd (fun _ => 0) 0 16) 1 16))), (a17, .inr (8, [.ref a19, .ref a20, .ref a21, .ref a22, .ref a23, .ref a24, .ref a25, .int 0])), (a3, .inr (8, [.ref a26, .ref a27, .ref a28, .ref a29, .ref a30, .ref a31, .ref a32, .int 0])), (a5, .inr (0, [.ref a33, .int 1, .int 1, .long 0, .int 1, .int 0, .long 0])), (a4, .inr (4, [.ref a1, .ref a5, .ref a35, .ref a36, .ref a37, .ref a38, .ref a39, .int 100, .int 0, .int 0, .int (-1)])), (a35, .inr (8, [.ref a40, .ref a41, .ref a42, .ref a43, .ref a44, .ref a45, .ref a46, .int 0])), (a36, .inl (cI, 7, .inl (fun _ => 0))), (a33, .inl (cJ, 256, .inr (.inl (vp_updL (fun _ => 0) 0 0))))] H := hP
  have hD : va_D A [(a0, .inr (9, [.ref a1, .ref a2, .ref a3, .int 0, .int 0, .ref a4, .ref a5, .ref a6, .ref a7])), (a1, .inr (7, [.int 100, .int 100, .int 0, .ref a8, .ref a9, .int 0, .ref a10, .ref a11, .ref a12, .ref a13, .ref a14, .ref a15, .ref a16, .ref a17, .ref a18])), (a9, .inl (cI, 2, .inl (upd (upd (fun _ => 0) 0 16) 1 16))), (a8, .inl (cI, 2, .inl (upd (upd (fun _ => 0) 0 16) 1 16))), (a17, .inr (8, [.ref a19, .ref a20, .ref a21, .ref a22, .ref a23, .ref a24, .ref a25, .int 0])), (a3, .inr (8, [.ref a26, .ref a27, .ref a28, .ref a29, .ref a30, .ref a31, .ref a32, .int 0])), (a5, .inr (0, [.ref a33, .int 1, .int 1, .long 0, .int 1, .int 0, .long 0])), (a4, .inr (4, [.ref a1, .ref a5, .ref a35, .ref a36, .ref a37, .ref a38, .ref a39, .int 100, .int 0, .int 0, .int (-1)])), (a35, .inr (8, [.ref a40, .ref a41, .ref a42, .ref a43, .ref a44, .ref a45, .ref a46, .int 0])), (a36, .inl (cI, 7, .inl (fun _ => 0))), (a33, .inl (cJ, 256, .inr (.inl (vp_updL (fun _ => 0) 0 0))))] := hD
  subst hp
  exact k_iret hC hr hlk hK hP hD hS () [] rfl (by decide) rfl (Nat.le_of_ble_eq_true rfl) (Nat.le_of_ble_eq_true rfl) dX9_fits_5
theorem dX9_isPart_0 : decode cX9_isPart 0 = .ok (.iload_n 1, 1) := by decide +kernel
theorem dX9_isPart_1 : decode cX9_isPart 1 = .ok (.ifCond .lt 20, 3) := by decide +kernel
theorem dX9_isPart_21 : decode cX9_isPart 21 = .ok (.iconst 0, 1) := by decide +kernel
theorem dX9_isPart_22 : decode cX9_isPart 22 = .ok (.ireturn, 1) := by decide +kernel
theorem dX9_isPart_4 : decode cX9_isPart 4 = .ok (.iload_n 1, 1) := by decide +kernel
theorem dX9_isPart_5 : decode cX9_isPart 5 = .ok (.iconst 3, 1) := by decide +kernel
theorem dX9_isPart_6 : decode cX9_isPart 6 = .ok (.aload_n 0, 1) := by decide +kernel
theorem dX9_isPart_7 : decode cX9_isPart 7 = .ok (.getfield 10, 3) := by decide +kernel
theorem dX9_isPart_10 : decode cX9_isPart 10 = .ok (.getfield 171, 3) := by decide +kernel
theorem dX9_isPart_13 : decode cX9_isPart 13 = .ok (.iadd, 1) := by decide +kernel
theorem dX9_isPart_14 : decode cX9_isPart 14 = .ok (.if_icmp .ge 7, 3) := by decide +kernel
theorem dX9_isPart_17 : decode cX9_isPart 17 = .ok (.iconst 1, 1) := by decide +kernel
theorem dX9_isPart_18 : decode cX9_isPart 18 = .ok (.goto 4, 3) := by decide +kernel
set_option maxHeartbeats 4000000 in
set_option maxRecDepth 100000 in
theorem c67_X9_isPart (l : Launch) (G : va_G) (cI cJ cB cZ : ClassId) (a0 a1 a2 a3 a4 a5 a6 a7 a8 a9 a10 a11 a12 a13 a14 a15 a16 a17 a18 : Nat) (x0 : Int32) : Con l G (TY cI cJ cB cZ) yX9_isPart cX9_isPart 2 (some .boolean) ({ frames := 0, cells := 0, slots := 0, locals := 0 } : Room) [.ref a0, .int x0] [(a0, .inr (9, [.ref a1, .ref a2, .ref a3, .int 0, .int 0, .ref a4, .ref a5, .ref a6, .ref a7])), (a1, .inr (7, [.int 100, .int 100, .int 0, .ref a8, .ref a9, .int 0, .ref a10, .ref a11, .ref a12, .ref a13, .ref a14, .ref a15, .ref a16, .ref a17, .ref a18]))] (QI G (TY cI cJ cB cZ) (fun (r : Int32) (u : Unit) => (r = 1 ∧ (0 ≤ x0.toInt ∧ x0.toInt ≤ 2)) ∨ (r = 0 ∧ ¬ (0 ≤ x0.toInt ∧ x0.toInt ≤ 2))) (fun u : Unit => [(a0, .inr (9, [.ref a1, .ref a2, .ref a3, .int 0, .int 0, .ref a4, .ref a5, .ref a6, .ref a7])), (a1, .inr (7, [.int 100, .int 100, .int 0, .ref a8, .ref a9, .int 0, .ref a10, .ref a11, .ref a12, .ref a13, .ref a14, .ref a15, .ref a16, .ref a17, .ref a18]))])) := by
  refine k_met (by decide) (Nat.le_of_ble_eq_true rfl) ?_
  intro p e s m below meth c A ls hC hr hlk hnm hN hK hA hP hD hS hl
  have hl : lv_has ls 2 [(0, .ref a0), (1, .int x0)] := hl
  obtain ⟨hx, hb, hml, hown, hts⟩ := id hC
  refine lv_iload_n hx hb dX9_isPart_0 rfl (lv_at hl 1 rfl) ?_
  refine lv_if_lt (tgt := 21) hx hb dX9_isPart_1 (by decide) (fun c_1 => ?_) (fun c_1 => ?_)
  · have d_1 : x0.toInt < 0 := (fa_lt _ _).mp c_1
    refine lv_iconst (v := 0) hx hb dX9_isPart_21 (by decide) ?_
    exact k_zret hC hr hlk hK hP hD hS () [0, 1] rfl (by decide) rfl (Or.inr ⟨rfl, by omega⟩) (Nat.le_of_ble_eq_true rfl) (Nat.le_of_ble_eq_true rfl) dX9_isPart_22
  · have d_1 : 0 ≤ x0.toInt := fa_nlt c_1
    refine lv_iload_n hx hb dX9_isPart_4 rfl (lv_at hl 1 rfl) ?_
    refine lv_iconst (v := 3) hx hb dX9_isPart_5 (by decide) ?_
    refine lv_aload_n hx hb dX9_isPart_6 rfl (lv_at hl 0 rfl) ?_
    refine k_get hC hK hP iX9 0 0 wf_X9_10 rfl (by decide) rfl rfl dX9_isPart_7 ?_
    refine k_getN hC hN hK hP iX7 1 5 wf_X9_171 rfl (by decide) rfl rfl dX9_isPart_10 ?_
    refine lv_iadd hx hb dX9_isPart_13 ?_
    refine k_i 3 (by decide +kernel) ?_
    refine lv_icmp_ge (tgt := 21) hx hb dX9_isPart_14 (by decide) (fun c_2 => ?_) (fun c_2 => ?_)
    · have d_2 : 3 ≤ x0.toInt := (fa_le _ _).mp c_2
      refine lv_iconst (v := 0) hx hb dX9_isPart_21 (by decide) ?_
      exact k_zret hC hr hlk hK hP hD hS () [0, 1] rfl (by decide) rfl (Or.inr ⟨rfl, by omega⟩) (Nat.le_of_ble_eq_true rfl) (Nat.le_of_ble_eq_true rfl) dX9_isPart_22
    · have d_2 : x0.toInt < 3 := fa_nle c_2
      have e_3 : x0.toInt = 0 ∨ x0.toInt = 1 ∨ x0.toInt = 2 := by omega
      obtain rfl | rfl | rfl : x0 = 0 ∨ x0 = 1 ∨ x0 = 2 := by simp only [fa_eq]; exact e_3
      · skip
        refine lv_iconst (v := 1) hx hb dX9_isPart_17 (by decide) ?_
        refine lv_goto (tgt := 22) hx hb dX9_isPart_18 (by decide) ?_
        exact k_zret hC hr hlk hK hP hD hS () [0, 1] rfl (by decide) rfl (Or.inl ⟨rfl, by omega⟩) (Nat.le_of_ble_eq_true rfl) (Nat.le_of_ble_eq_true rfl) dX9_isPart_22
      · skip
        refine lv_iconst (v := 1) hx hb dX9_isPart_17 (by decide) ?_
        refine lv_goto (tgt := 22) hx hb dX9_isPart_18 (by decide) ?_
        exact k_zret hC hr hlk hK hP hD hS () [0, 1] rfl (by decide) rfl (Or.inl ⟨rfl, by omega⟩) (Nat.le_of_ble_eq_true rfl) (Nat.le_of_ble_eq_true rfl) dX9_isPart_22
      · skip
        refine lv_iconst (v := 1) hx hb dX9_isPart_17 (by decide) ?_
        refine lv_goto (tgt := 22) hx hb dX9_isPart_18 (by decide) ?_
        exact k_zret hC hr hlk hK hP hD hS () [0, 1] rfl (by decide) rfl (Or.inl ⟨rfl, by omega⟩) (Nat.le_of_ble_eq_true rfl) (Nat.le_of_ble_eq_true rfl) dX9_isPart_22
theorem dX0_row_0 : decode cX0_row 0 = .ok (.iload_n 1, 1) := by decide +kernel
theorem dX0_row_1 : decode cX0_row 1 = .ok (.ifCond .lt 20, 3) := by decide +kernel
theorem dX0_row_4 : decode cX0_row 4 = .ok (.iload_n 1, 1) := by decide +kernel
theorem dX0_row_5 : decode cX0_row 5 = .ok (.aload_n 0, 1) := by decide +kernel
theorem dX0_row_6 : decode cX0_row 6 = .ok (.getfield 15, 3) := by decide +kernel
theorem dX0_row_9 : decode cX0_row 9 = .ok (.if_icmp .ge 12, 3) := by decide +kernel
theorem dX0_row_12 : decode cX0_row 12 = .ok (.aload_n 0, 1) := by decide +kernel
theorem dX0_row_13 : decode cX0_row 13 = .ok (.getfield 11, 3) := by decide +kernel
theorem dX0_row_16 : decode cX0_row 16 = .ok (.iload_n 1, 1) := by decide +kernel
theorem dX0_row_17 : decode cX0_row 17 = .ok (.laload, 1) := by decide +kernel
theorem dX0_row_18 : decode cX0_row 18 = .ok (.goto 4, 3) := by decide +kernel
theorem dX0_row_22 : decode cX0_row 22 = .ok (.lreturn, 1) := by decide +kernel
set_option maxHeartbeats 4000000 in
set_option maxRecDepth 100000 in
theorem c68_X0_row (l : Launch) (G : va_G) (cI cJ cB cZ : ClassId) (a0 a1 : Nat) : Con l G (TY cI cJ cB cZ) yX0_row cX0_row 2 (some .long) ({ frames := 0, cells := 0, slots := 0, locals := 0 } : Room) [.ref a0, .int 0] [(a0, .inr (0, [.ref a1, .int 1, .int 1, .long 0, .int 1, .int 0, .long 0])), (a1, .inl (cJ, 256, .inr (.inl (vp_updL (fun _ => 0) 0 0))))] (QL G (TY cI cJ cB cZ) (fun (r : Int64) (u : Unit) => r = 0) (fun u : Unit => [(a0, .inr (0, [.ref a1, .int 1, .int 1, .long 0, .int 1, .int 0, .long 0])), (a1, .inl (cJ, 256, .inr (.inl (vp_updL (fun _ => 0) 0 0))))])) := by
  refine k_met (by decide) (Nat.le_of_ble_eq_true rfl) ?_
  intro p e s m below meth c A ls hC hr hlk hnm hN hK hA hP hD hS hl
  have hl : lv_has ls 2 [(0, .ref a0), (1, .int 0)] := hl
  obtain ⟨hx, hb, hml, hown, hts⟩ := id hC
  refine lv_iload_n hx hb dX0_row_0 rfl (lv_at hl 1 rfl) ?_
  refine lv_if_lt (tgt := 21) hx hb dX0_row_1 (by decide) (fun c_ => absurd c_ (by decide +kernel)) (fun _ => ?_)
  refine lv_iload_n hx hb dX0_row_4 rfl (lv_at hl 1 rfl) ?_
  refine lv_aload_n hx hb dX0_row_5 rfl (lv_at hl 0 rfl) ?_
  refine k_get hC hK hP iX0 0 1 wf_X0_15 rfl (by decide) rfl rfl dX0_row_6 ?_
  refine lv_icmp_ge (tgt := 21) hx hb dX0_row_9 (by decide) (fun c_ => absurd c_ (by decide +kernel)) (fun _ => ?_)
  refine lv_aload_n hx hb dX0_row_12 rfl (lv_at hl 0 rfl) ?_
  refine k_get hC hK hP iX0 0 0 wf_X0_11 rfl (by decide) rfl rfl dX0_row_13 ?_
  refine lv_iload_n hx hb dX0_row_16 rfl (lv_at hl 1 rfl) ?_
  refine k_lald (v := 0) hC hK hP 1 0 rfl (by decide +kernel) (by decide) (by decide +kernel) dX0_row_17 ?_
  refine lv_goto (tgt := 22) hx hb dX0_row_18 (by decide) ?_
  exact k_lret hC hr hlk hK hP hD hS () [0, 1] rfl (by decide) rfl (Nat.le_of_ble_eq_true rfl) (Nat.le_of_ble_eq_true rfl) dX0_row_22
theorem dX0_armStep_0 : decode cX0_armStep 0 = .ok (.lload_n 0, 1) := by decide +kernel
theorem dX0_armStep_1 : decode cX0_armStep 1 = .ok (.bipush 54, 2) := by decide +kernel
theorem dX0_armStep_3 : decode cX0_armStep 3 = .ok (.lshr, 1) := by decide +kernel
theorem dX0_armStep_4 : decode cX0_armStep 4 = .ok (.l2i, 1) := by decide +kernel
theorem dX0_armStep_5 : decode cX0_armStep 5 = .ok (.bipush 7, 2) := by decide +kernel
theorem dX0_armStep_7 : decode cX0_armStep 7 = .ok (.iand, 1) := by decide +kernel
theorem dX0_armStep_8 : decode cX0_armStep 8 = .ok (.ireturn, 1) := by decide +kernel
set_option maxHeartbeats 4000000 in
set_option maxRecDepth 100000 in
theorem c69_X0_armStep (l : Launch) (G : va_G) (cI cJ cB cZ : ClassId) : Con l G (TY cI cJ cB cZ) yX0_armStep cX0_armStep 2 (some .int) ({ frames := 0, cells := 0, slots := 0, locals := 0 } : Room) [.long 0] [] (QI G (TY cI cJ cB cZ) (fun (r : Int32) (u : Unit) => r = 0) (fun u : Unit => [])) := by
  refine k_met (by decide) (Nat.le_of_ble_eq_true rfl) ?_
  intro p e s m below meth c A ls hC hr hlk hnm hN hK hA hP hD hS hl
  have hl : lv_has ls 2 [(0, .long 0)] := hl
  obtain ⟨hx, hb, hml, hown, hts⟩ := id hC
  refine lv_lload_n hx hb dX0_armStep_0 rfl (lv_at hl 0 rfl) ?_
  refine lv_bipush (v := 54) hx hb dX0_armStep_1 (by decide) ?_
  refine lv_lshr (v := 0) hx hb dX0_armStep_3 (by decide +kernel) ?_
  refine lv_l2i (v := 0) hx hb dX0_armStep_4 (by decide +kernel) ?_
  refine lv_bipush (v := 7) hx hb dX0_armStep_5 (by decide) ?_
  refine lv_iand hx hb dX0_armStep_7 ?_
  refine k_i 0 (by decide +kernel) ?_
  exact k_iret hC hr hlk hK hP hD hS () [] rfl (by decide) rfl (Nat.le_of_ble_eq_true rfl) (Nat.le_of_ble_eq_true rfl) dX0_armStep_8
theorem dX7_armOf_0 : decode cX7_armOf 0 = .ok (.aload_n 0, 1) := by decide +kernel
theorem dX7_armOf_1 : decode cX7_armOf 1 = .ok (.getfield 59, 3) := by decide +kernel
theorem dX7_armOf_4 : decode cX7_armOf 4 = .ok (.lload_n 1, 1) := by decide +kernel
theorem dX7_armOf_5 : decode cX7_armOf 5 = .ok (.invokestatic 95, 3) := by decide +kernel
set_option maxRecDepth 100000 in
theorem wm_X7_95 : Cond.methodLink RX7 95 yX0_armStep ∈ gw := gm (List.mem_of_getElem? (i := 946) (by decide +kernel)) rfl
set_option maxRecDepth 100000 in
theorem mi_X0_armStep : MI yX0_armStep cX0_armStep 2 (some .int) 1 := ⟨gm (List.mem_of_getElem? (i := 948) rfl) rfl, gm (List.mem_of_getElem? (i := 121) (by decide +kernel)) rfl, by decide, by decide, by decide +kernel⟩
set_option maxRecDepth 100000 in
theorem st_X0_armStep : Cond.static yX0_armStep ∈ gw := gm (List.mem_of_getElem? (i := 947) (by decide +kernel)) rfl
theorem dX7_armOf_8 : decode cX7_armOf 8 = .ok (.iadd, 1) := by decide +kernel
theorem dX7_armOf_9 : decode cX7_armOf 9 = .ok (.ireturn, 1) := by decide +kernel
set_option maxHeartbeats 4000000 in
set_option maxRecDepth 100000 in
theorem c70_X7_armOf (l : Launch) (G : va_G) (cI cJ cB cZ : ClassId) (a0 a1 a2 a3 a4 a5 a6 a7 a8 a9 a10 a11 : Nat) : Con l G (TY cI cJ cB cZ) yX7_armOf cX7_armOf 3 (some .int) ({ frames := 1, cells := 0, slots := 0, locals := 21 } : Room) [.ref a0, .long 0] [(a0, .inr (7, [.int 100, .int 100, .int 0, .ref a1, .ref a2, .int 0, .ref a3, .ref a4, .ref a5, .ref a6, .ref a7, .ref a8, .ref a9, .ref a10, .ref a11]))] (QI G (TY cI cJ cB cZ) (fun (r : Int32) (u : Unit) => r = 100) (fun u : Unit => [(a0, .inr (7, [.int 100, .int 100, .int 0, .ref a1, .ref a2, .int 0, .ref a3, .ref a4, .ref a5, .ref a6, .ref a7, .ref a8, .ref a9, .ref a10, .ref a11]))])) := by
  refine k_met (by decide) (Nat.le_of_ble_eq_true rfl) ?_
  intro p e s m below meth c A ls hC hr hlk hnm hN hK hA hP hD hS hl
  have hl : lv_has ls 3 [(0, .ref a0), (1, .long 0)] := hl
  obtain ⟨hx, hb, hml, hown, hts⟩ := id hC
  refine lv_aload_n hx hb dX7_armOf_0 rfl (lv_at hl 0 rfl) ?_
  refine k_get hC hK hP iX7 0 0 wf_X7_59 rfl (by decide) rfl rfl dX7_armOf_1 ?_
  refine lv_lload_n hx hb dX7_armOf_4 rfl (lv_at hl 1 rfl) ?_
  refine k_ci (wr := [(a0, .inr (7, [.int 100, .int 100, .int 0, .ref a1, .ref a2, .int 0, .ref a3, .ref a4, .ref a5, .ref a6, .ref a7, .ref a8, .ref a9, .ref a10, .ref a11]))]) (k_rS hC hN hK hP hD (c69_X0_armStep l G cI cJ cB cZ) [] rfl (by decide) mi_X0_armStep st_X0_armStep wm_X7_95 hl.1 rfl rfl (Nat.le_of_ble_eq_true rfl) ⟨(Nat.le_of_ble_eq_true rfl), (Nat.le_of_ble_eq_true rfl)⟩ dX7_armOf_5 ⟨(Nat.le_of_ble_eq_true rfl), (Nat.le_of_ble_eq_true rfl)⟩) hP hD hS hA [] [0] rfl rfl (by decide) (by decide) (fun r1 u1 H locs hp hP hD hS => ?_)
  have hP : va_P G cl [(a0, .inr (7, [.int 100, .int 100, .int 0, .ref a1, .ref a2, .int 0, .ref a3, .ref a4, .ref a5, .ref a6, .ref a7, .ref a8, .ref a9, .ref a10, .ref a11]))] H := hP
  have hD : va_D A [(a0, .inr (7, [.int 100, .int 100, .int 0, .ref a1, .ref a2, .int 0, .ref a3, .ref a4, .ref a5, .ref a6, .ref a7, .ref a8, .ref a9, .ref a10, .ref a11]))] := hD
  subst hp
  refine lv_iadd hx hb dX7_armOf_8 ?_
  refine k_i 100 (by decide +kernel) ?_
  exact k_iret hC hr hlk hK hP hD hS () [0] rfl (by decide) rfl (Nat.le_of_ble_eq_true rfl) (Nat.le_of_ble_eq_true rfl) dX7_armOf_9
theorem dX7_partOf_0 : decode cX7_partOf 0 = .ok (.iload_n 3, 1) := by decide +kernel
theorem dX7_partOf_1 : decode cX7_partOf 1 = .ok (.ifCond .gt 9, 3) := by decide +kernel
theorem dX7_partOf_4 : decode cX7_partOf 4 = .ok (.aload_n 0, 1) := by decide +kernel
theorem dX7_partOf_5 : decode cX7_partOf 5 = .ok (.lload_n 1, 1) := by decide +kernel
theorem dX7_partOf_6 : decode cX7_partOf 6 = .ok (.invokevirtual 105, 3) := by decide +kernel
set_option maxRecDepth 100000 in
theorem wm_X7_105 : Cond.methodLink RX7 105 yX7_armOf ∈ gw := gm (List.mem_of_getElem? (i := 942) (by decide +kernel)) rfl
set_option maxRecDepth 100000 in
theorem mi_X7_armOf : MI yX7_armOf cX7_armOf 3 (some .int) 1 := ⟨gm (List.mem_of_getElem? (i := 945) rfl) rfl, gm (List.mem_of_getElem? (i := 113) (by decide +kernel)) rfl, by decide, by decide, by decide +kernel⟩
set_option maxRecDepth 100000 in
theorem in_X7_armOf : Cond.instanceMethod yX7_armOf ∈ gw := gm (List.mem_of_getElem? (i := 943) (by decide +kernel)) rfl
set_option maxRecDepth 100000 in
theorem se_X7_armOf : Cond.selects yX7_armOf.cls yX7_armOf yX7_armOf ∈ gw := gm (List.mem_of_getElem? (i := 944) (by decide +kernel)) rfl
theorem dX7_partOf_9 : decode cX7_partOf 9 = .ok (.ireturn, 1) := by decide +kernel
set_option maxHeartbeats 4000000 in
set_option maxRecDepth 100000 in
theorem c71_X7_partOf (l : Launch) (G : va_G) (cI cJ cB cZ : ClassId) (a0 a1 a2 a3 a4 a5 a6 a7 a8 a9 a10 a11 : Nat) : Con l G (TY cI cJ cB cZ) yX7_partOf cX7_partOf 4 (some .int) ({ frames := 2, cells := 0, slots := 0, locals := 43 } : Room) [.ref a0, .long 0, .int 0] [(a0, .inr (7, [.int 100, .int 100, .int 0, .ref a1, .ref a2, .int 0, .ref a3, .ref a4, .ref a5, .ref a6, .ref a7, .ref a8, .ref a9, .ref a10, .ref a11]))] (QI G (TY cI cJ cB cZ) (fun (r : Int32) (u : Unit) => r = 100) (fun u : Unit => [(a0, .inr (7, [.int 100, .int 100, .int 0, .ref a1, .ref a2, .int 0, .ref a3, .ref a4, .ref a5, .ref a6, .ref a7, .ref a8, .ref a9, .ref a10, .ref a11]))])) := by
  refine k_met (by decide) (Nat.le_of_ble_eq_true rfl) ?_
  intro p e s m below meth c A ls hC hr hlk hnm hN hK hA hP hD hS hl
  have hl : lv_has ls 4 [(0, .ref a0), (1, .long 0), (3, .int 0)] := hl
  obtain ⟨hx, hb, hml, hown, hts⟩ := id hC
  refine lv_iload_n hx hb dX7_partOf_0 rfl (lv_at hl 2 rfl) ?_
  refine lv_if_gt (tgt := 10) hx hb dX7_partOf_1 (by decide) (fun c_ => absurd c_ (by decide +kernel)) (fun _ => ?_)
  refine lv_aload_n hx hb dX7_partOf_4 rfl (lv_at hl 0 rfl) ?_
  refine lv_lload_n hx hb dX7_partOf_5 rfl (lv_at hl 1 rfl) ?_
  refine k_ci (wr := []) (k_rV hC hN hK hP hD (c70_X7_armOf l G cI cJ cB cZ a0 a1 a2 a3 a4 a5 a6 a7 a8 a9 a10 a11) [0] rfl (by decide) mi_X7_armOf in_X7_armOf se_X7_armOf wm_X7_105 7 0 rfl rfl rfl hl.1 rfl rfl (Nat.le_of_ble_eq_true rfl) ⟨(Nat.le_of_ble_eq_true rfl), (Nat.le_of_ble_eq_true rfl)⟩ dX7_partOf_6 ⟨(Nat.le_of_ble_eq_true rfl), (Nat.le_of_ble_eq_true rfl)⟩) hP hD hS hA [0] [] rfl rfl (by decide) (by decide) (fun r1 u1 H locs hp hP hD hS => ?_)
  have hP : va_P G cl [(a0, .inr (7, [.int 100, .int 100, .int 0, .ref a1, .ref a2, .int 0, .ref a3, .ref a4, .ref a5, .ref a6, .ref a7, .ref a8, .ref a9, .ref a10, .ref a11]))] H := hP
  have hD : va_D A [(a0, .inr (7, [.int 100, .int 100, .int 0, .ref a1, .ref a2, .int 0, .ref a3, .ref a4, .ref a5, .ref a6, .ref a7, .ref a8, .ref a9, .ref a10, .ref a11]))] := hD
  subst hp
  exact k_iret hC hr hlk hK hP hD hS () [0] rfl (by decide) rfl (Nat.le_of_ble_eq_true rfl) (Nat.le_of_ble_eq_true rfl) dX7_partOf_9
theorem dX0_poundStep_0 : decode cX0_poundStep 0 = .ok (.lload_n 0, 1) := by decide +kernel
theorem dX0_poundStep_1 : decode cX0_poundStep 1 = .ok (.bipush 57, 2) := by decide +kernel
theorem dX0_poundStep_3 : decode cX0_poundStep 3 = .ok (.iconst 3, 1) := by decide +kernel
theorem dX0_poundStep_4 : decode cX0_poundStep 4 = .ok (.iload_n 2, 1) := by decide +kernel
theorem dX0_poundStep_5 : decode cX0_poundStep 5 = .ok (.imul, 1) := by decide +kernel
theorem dX0_poundStep_6 : decode cX0_poundStep 6 = .ok (.iadd, 1) := by decide +kernel
theorem dX0_poundStep_7 : decode cX0_poundStep 7 = .ok (.lshr, 1) := by decide +kernel
theorem dX0_poundStep_8 : decode cX0_poundStep 8 = .ok (.l2i, 1) := by decide +kernel
theorem dX0_poundStep_9 : decode cX0_poundStep 9 = .ok (.bipush 7, 2) := by decide +kernel
theorem dX0_poundStep_11 : decode cX0_poundStep 11 = .ok (.iand, 1) := by decide +kernel
theorem dX0_poundStep_12 : decode cX0_poundStep 12 = .ok (.ireturn, 1) := by decide +kernel
set_option maxHeartbeats 4000000 in
set_option maxRecDepth 100000 in
theorem c72_X0_poundStep (l : Launch) (G : va_G) (cI cJ cB cZ : ClassId) : Con l G (TY cI cJ cB cZ) yX0_poundStep cX0_poundStep 3 (some .int) ({ frames := 0, cells := 0, slots := 0, locals := 0 } : Room) [.long 0, .int 0] [] (QI G (TY cI cJ cB cZ) (fun (r : Int32) (u : Unit) => r = 0) (fun u : Unit => [])) := by
  refine k_met (by decide) (Nat.le_of_ble_eq_true rfl) ?_
  intro p e s m below meth c A ls hC hr hlk hnm hN hK hA hP hD hS hl
  have hl : lv_has ls 3 [(0, .long 0), (2, .int 0)] := hl
  obtain ⟨hx, hb, hml, hown, hts⟩ := id hC
  refine lv_lload_n hx hb dX0_poundStep_0 rfl (lv_at hl 0 rfl) ?_
  refine lv_bipush (v := 57) hx hb dX0_poundStep_1 (by decide) ?_
  refine lv_iconst (v := 3) hx hb dX0_poundStep_3 (by decide) ?_
  refine lv_iload_n hx hb dX0_poundStep_4 rfl (lv_at hl 1 rfl) ?_
  refine lv_imul hx hb dX0_poundStep_5 ?_
  refine k_i 0 (by decide +kernel) ?_
  refine lv_iadd hx hb dX0_poundStep_6 ?_
  refine k_i 57 (by decide +kernel) ?_
  refine lv_lshr (v := 0) hx hb dX0_poundStep_7 (by decide +kernel) ?_
  refine lv_l2i (v := 0) hx hb dX0_poundStep_8 (by decide +kernel) ?_
  refine lv_bipush (v := 7) hx hb dX0_poundStep_9 (by decide) ?_
  refine lv_iand hx hb dX0_poundStep_11 ?_
  refine k_i 0 (by decide +kernel) ?_
  exact k_iret hC hr hlk hK hP hD hS () [] rfl (by decide) rfl (Nat.le_of_ble_eq_true rfl) (Nat.le_of_ble_eq_true rfl) dX0_poundStep_12
theorem dX7_poundOf_0 : decode cX7_poundOf 0 = .ok (.iload_n 3, 1) := by decide +kernel
theorem dX7_poundOf_1 : decode cX7_poundOf 1 = .ok (.ifCond .lt 8, 3) := by decide +kernel
theorem dX7_poundOf_4 : decode cX7_poundOf 4 = .ok (.iload_n 3, 1) := by decide +kernel
theorem dX7_poundOf_5 : decode cX7_poundOf 5 = .ok (.iconst 2, 1) := by decide +kernel
theorem dX7_poundOf_6 : decode cX7_poundOf 6 = .ok (.if_icmp .lt 5, 3) := by decide +kernel
theorem dX7_poundOf_11 : decode cX7_poundOf 11 = .ok (.aload_n 0, 1) := by decide +kernel
theorem dX7_poundOf_12 : decode cX7_poundOf 12 = .ok (.getfield 9, 3) := by decide +kernel
theorem dX7_poundOf_15 : decode cX7_poundOf 15 = .ok (.iload_n 3, 1) := by decide +kernel
theorem dX7_poundOf_16 : decode cX7_poundOf 16 = .ok (.iaload, 1) := by decide +kernel
theorem dX7_poundOf_17 : decode cX7_poundOf 17 = .ok (.lload_n 1, 1) := by decide +kernel
theorem dX7_poundOf_18 : decode cX7_poundOf 18 = .ok (.iload_n 3, 1) := by decide +kernel
theorem dX7_poundOf_19 : decode cX7_poundOf 19 = .ok (.invokestatic 101, 3) := by decide +kernel
set_option maxRecDepth 100000 in
theorem wm_X7_101 : Cond.methodLink RX7 101 yX0_poundStep ∈ gw := gm (List.mem_of_getElem? (i := 953) (by decide +kernel)) rfl
set_option maxRecDepth 100000 in
theorem mi_X0_poundStep : MI yX0_poundStep cX0_poundStep 3 (some .int) 2 := ⟨gm (List.mem_of_getElem? (i := 955) rfl) rfl, gm (List.mem_of_getElem? (i := 121) (by decide +kernel)) rfl, by decide, by decide, by decide +kernel⟩
set_option maxRecDepth 100000 in
theorem st_X0_poundStep : Cond.static yX0_poundStep ∈ gw := gm (List.mem_of_getElem? (i := 954) (by decide +kernel)) rfl
theorem dX7_poundOf_22 : decode cX7_poundOf 22 = .ok (.iadd, 1) := by decide +kernel
theorem dX7_poundOf_23 : decode cX7_poundOf 23 = .ok (.ireturn, 1) := by decide +kernel
set_option maxHeartbeats 4000000 in
set_option maxRecDepth 100000 in
theorem c73_X7_poundOf (l : Launch) (G : va_G) (cI cJ cB cZ : ClassId) (a0 a1 a2 a3 a4 a5 a6 a7 a8 a9 a10 a11 : Nat) : Con l G (TY cI cJ cB cZ) yX7_poundOf cX7_poundOf 4 (some .int) ({ frames := 1, cells := 0, slots := 0, locals := 22 } : Room) [.ref a0, .long 0, .int 0] [(a0, .inr (7, [.int 100, .int 100, .int 0, .ref a1, .ref a2, .int 0, .ref a3, .ref a4, .ref a5, .ref a6, .ref a7, .ref a8, .ref a9, .ref a10, .ref a11])), (a1, .inl (cI, 2, .inl (upd (upd (fun _ => 0) 0 16) 1 16)))] (QI G (TY cI cJ cB cZ) (fun (r : Int32) (u : Unit) => r = 16) (fun u : Unit => [(a0, .inr (7, [.int 100, .int 100, .int 0, .ref a1, .ref a2, .int 0, .ref a3, .ref a4, .ref a5, .ref a6, .ref a7, .ref a8, .ref a9, .ref a10, .ref a11])), (a1, .inl (cI, 2, .inl (upd (upd (fun _ => 0) 0 16) 1 16)))])) := by
  refine k_met (by decide) (Nat.le_of_ble_eq_true rfl) ?_
  intro p e s m below meth c A ls hC hr hlk hnm hN hK hA hP hD hS hl
  have hl : lv_has ls 4 [(0, .ref a0), (1, .long 0), (3, .int 0)] := hl
  obtain ⟨hx, hb, hml, hown, hts⟩ := id hC
  refine lv_iload_n hx hb dX7_poundOf_0 rfl (lv_at hl 2 rfl) ?_
  refine lv_if_lt (tgt := 9) hx hb dX7_poundOf_1 (by decide) (fun c_ => absurd c_ (by decide +kernel)) (fun _ => ?_)
  refine lv_iload_n hx hb dX7_poundOf_4 rfl (lv_at hl 2 rfl) ?_
  refine lv_iconst (v := 2) hx hb dX7_poundOf_5 (by decide) ?_
  refine lv_icmp_lt (tgt := 11) hx hb dX7_poundOf_6 (by decide) (fun _ => ?_) (fun c_ => absurd (by decide +kernel) c_)
  refine lv_aload_n hx hb dX7_poundOf_11 rfl (lv_at hl 0 rfl) ?_
  refine k_get hC hK hP iX7 0 3 wf_X7_9 rfl (by decide) rfl rfl dX7_poundOf_12 ?_
  refine lv_iload_n hx hb dX7_poundOf_15 rfl (lv_at hl 2 rfl) ?_
  refine k_iald (v := 16) hC hK hP 1 0 rfl (by decide +kernel) (by decide) (by decide +kernel) dX7_poundOf_16 ?_
  refine lv_lload_n hx hb dX7_poundOf_17 rfl (lv_at hl 1 rfl) ?_
  refine lv_iload_n hx hb dX7_poundOf_18 rfl (lv_at hl 2 rfl) ?_
  refine k_ci (wr := [(a0, .inr (7, [.int 100, .int 100, .int 0, .ref a1, .ref a2, .int 0, .ref a3, .ref a4, .ref a5, .ref a6, .ref a7, .ref a8, .ref a9, .ref a10, .ref a11])), (a1, .inl (cI, 2, .inl (upd (upd (fun _ => 0) 0 16) 1 16)))]) (k_rS hC hN hK hP hD (c72_X0_poundStep l G cI cJ cB cZ) [] rfl (by decide) mi_X0_poundStep st_X0_poundStep wm_X7_101 hl.1 rfl rfl (Nat.le_of_ble_eq_true rfl) ⟨(Nat.le_of_ble_eq_true rfl), (Nat.le_of_ble_eq_true rfl)⟩ dX7_poundOf_19 ⟨(Nat.le_of_ble_eq_true rfl), (Nat.le_of_ble_eq_true rfl)⟩) hP hD hS hA [] [0, 1] rfl rfl (by decide) (by decide) (fun r1 u1 H locs hp hP hD hS => ?_)
  have hP : va_P G cl [(a0, .inr (7, [.int 100, .int 100, .int 0, .ref a1, .ref a2, .int 0, .ref a3, .ref a4, .ref a5, .ref a6, .ref a7, .ref a8, .ref a9, .ref a10, .ref a11])), (a1, .inl (cI, 2, .inl (upd (upd (fun _ => 0) 0 16) 1 16)))] H := hP
  have hD : va_D A [(a0, .inr (7, [.int 100, .int 100, .int 0, .ref a1, .ref a2, .int 0, .ref a3, .ref a4, .ref a5, .ref a6, .ref a7, .ref a8, .ref a9, .ref a10, .ref a11])), (a1, .inl (cI, 2, .inl (upd (upd (fun _ => 0) 0 16) 1 16)))] := hD
  subst hp
  refine lv_iadd hx hb dX7_poundOf_22 ?_
  refine k_i 16 (by decide +kernel) ?_
  exact k_iret hC hr hlk hK hP hD hS () [0, 1] rfl (by decide) rfl (Nat.le_of_ble_eq_true rfl) (Nat.le_of_ble_eq_true rfl) dX7_poundOf_23
theorem dX7_partOf_10 : decode cX7_partOf 10 = .ok (.iload_n 3, 1) := by decide +kernel
theorem dX7_partOf_11 : decode cX7_partOf 11 = .ok (.iconst 3, 1) := by decide +kernel
theorem dX7_partOf_12 : decode cX7_partOf 12 = .ok (.if_icmp .ge 12, 3) := by decide +kernel
theorem dX7_partOf_15 : decode cX7_partOf 15 = .ok (.aload_n 0, 1) := by decide +kernel
theorem dX7_partOf_16 : decode cX7_partOf 16 = .ok (.lload_n 1, 1) := by decide +kernel
theorem dX7_partOf_17 : decode cX7_partOf 17 = .ok (.iload_n 3, 1) := by decide +kernel
theorem dX7_partOf_18 : decode cX7_partOf 18 = .ok (.iconst 1, 1) := by decide +kernel
theorem dX7_partOf_19 : decode cX7_partOf 19 = .ok (.isub, 1) := by decide +kernel
theorem dX7_partOf_20 : decode cX7_partOf 20 = .ok (.invokevirtual 108, 3) := by decide +kernel
set_option maxRecDepth 100000 in
theorem wm_X7_108 : Cond.methodLink RX7 108 yX7_poundOf ∈ gw := gm (List.mem_of_getElem? (i := 949) (by decide +kernel)) rfl
set_option maxRecDepth 100000 in
theorem mi_X7_poundOf : MI yX7_poundOf cX7_poundOf 4 (some .int) 2 := ⟨gm (List.mem_of_getElem? (i := 952) rfl) rfl, gm (List.mem_of_getElem? (i := 113) (by decide +kernel)) rfl, by decide, by decide, by decide +kernel⟩
set_option maxRecDepth 100000 in
theorem in_X7_poundOf : Cond.instanceMethod yX7_poundOf ∈ gw := gm (List.mem_of_getElem? (i := 950) (by decide +kernel)) rfl
set_option maxRecDepth 100000 in
theorem se_X7_poundOf : Cond.selects yX7_poundOf.cls yX7_poundOf yX7_poundOf ∈ gw := gm (List.mem_of_getElem? (i := 951) (by decide +kernel)) rfl
theorem dX7_partOf_23 : decode cX7_partOf 23 = .ok (.ireturn, 1) := by decide +kernel
set_option maxHeartbeats 4000000 in
set_option maxRecDepth 100000 in
theorem c74_X7_partOf (l : Launch) (G : va_G) (cI cJ cB cZ : ClassId) (a0 a1 a2 a3 a4 a5 a6 a7 a8 a9 a10 a11 : Nat) : Con l G (TY cI cJ cB cZ) yX7_partOf cX7_partOf 4 (some .int) ({ frames := 2, cells := 0, slots := 0, locals := 45 } : Room) [.ref a0, .long 0, .int 1] [(a0, .inr (7, [.int 100, .int 100, .int 0, .ref a1, .ref a2, .int 0, .ref a3, .ref a4, .ref a5, .ref a6, .ref a7, .ref a8, .ref a9, .ref a10, .ref a11])), (a1, .inl (cI, 2, .inl (upd (upd (fun _ => 0) 0 16) 1 16)))] (QI G (TY cI cJ cB cZ) (fun (r : Int32) (u : Unit) => r = 16) (fun u : Unit => [(a0, .inr (7, [.int 100, .int 100, .int 0, .ref a1, .ref a2, .int 0, .ref a3, .ref a4, .ref a5, .ref a6, .ref a7, .ref a8, .ref a9, .ref a10, .ref a11])), (a1, .inl (cI, 2, .inl (upd (upd (fun _ => 0) 0 16) 1 16)))])) := by
  refine k_met (by decide) (Nat.le_of_ble_eq_true rfl) ?_
  intro p e s m below meth c A ls hC hr hlk hnm hN hK hA hP hD hS hl
  have hl : lv_has ls 4 [(0, .ref a0), (1, .long 0), (3, .int 1)] := hl
  obtain ⟨hx, hb, hml, hown, hts⟩ := id hC
  refine lv_iload_n hx hb dX7_partOf_0 rfl (lv_at hl 2 rfl) ?_
  refine lv_if_gt (tgt := 10) hx hb dX7_partOf_1 (by decide) (fun _ => ?_) (fun c_ => absurd (by decide +kernel) c_)
  refine lv_iload_n hx hb dX7_partOf_10 rfl (lv_at hl 2 rfl) ?_
  refine lv_iconst (v := 3) hx hb dX7_partOf_11 (by decide) ?_
  refine lv_icmp_ge (tgt := 24) hx hb dX7_partOf_12 (by decide) (fun c_ => absurd c_ (by decide +kernel)) (fun _ => ?_)
  refine lv_aload_n hx hb dX7_partOf_15 rfl (lv_at hl 0 rfl) ?_
  refine lv_lload_n hx hb dX7_partOf_16 rfl (lv_at hl 1 rfl) ?_
  refine lv_iload_n hx hb dX7_partOf_17 rfl (lv_at hl 2 rfl) ?_
  refine lv_iconst (v := 1) hx hb dX7_partOf_18 (by decide) ?_
  refine lv_isub hx hb dX7_partOf_19 ?_
  refine k_i 0 (by decide +kernel) ?_
  refine k_ci (wr := []) (k_rV hC hN hK hP hD (c73_X7_poundOf l G cI cJ cB cZ a0 a1 a2 a3 a4 a5 a6 a7 a8 a9 a10 a11) [0, 1] rfl (by decide) mi_X7_poundOf in_X7_poundOf se_X7_poundOf wm_X7_108 7 0 rfl rfl rfl hl.1 rfl rfl (Nat.le_of_ble_eq_true rfl) ⟨(Nat.le_of_ble_eq_true rfl), (Nat.le_of_ble_eq_true rfl)⟩ dX7_partOf_20 ⟨(Nat.le_of_ble_eq_true rfl), (Nat.le_of_ble_eq_true rfl)⟩) hP hD hS hA [0, 1] [] rfl rfl (by decide) (by decide) (fun r1 u1 H locs hp hP hD hS => ?_)
  have hP : va_P G cl [(a0, .inr (7, [.int 100, .int 100, .int 0, .ref a1, .ref a2, .int 0, .ref a3, .ref a4, .ref a5, .ref a6, .ref a7, .ref a8, .ref a9, .ref a10, .ref a11])), (a1, .inl (cI, 2, .inl (upd (upd (fun _ => 0) 0 16) 1 16)))] H := hP
  have hD : va_D A [(a0, .inr (7, [.int 100, .int 100, .int 0, .ref a1, .ref a2, .int 0, .ref a3, .ref a4, .ref a5, .ref a6, .ref a7, .ref a8, .ref a9, .ref a10, .ref a11])), (a1, .inl (cI, 2, .inl (upd (upd (fun _ => 0) 0 16) 1 16)))] := hD
  subst hp
  exact k_iret hC hr hlk hK hP hD hS () [0, 1] rfl (by decide) rfl (Nat.le_of_ble_eq_true rfl) (Nat.le_of_ble_eq_true rfl) dX7_partOf_23
set_option maxHeartbeats 4000000 in
set_option maxRecDepth 100000 in
theorem c75_X0_poundStep (l : Launch) (G : va_G) (cI cJ cB cZ : ClassId) : Con l G (TY cI cJ cB cZ) yX0_poundStep cX0_poundStep 3 (some .int) ({ frames := 0, cells := 0, slots := 0, locals := 0 } : Room) [.long 0, .int 1] [] (QI G (TY cI cJ cB cZ) (fun (r : Int32) (u : Unit) => r = 0) (fun u : Unit => [])) := by
  refine k_met (by decide) (Nat.le_of_ble_eq_true rfl) ?_
  intro p e s m below meth c A ls hC hr hlk hnm hN hK hA hP hD hS hl
  have hl : lv_has ls 3 [(0, .long 0), (2, .int 1)] := hl
  obtain ⟨hx, hb, hml, hown, hts⟩ := id hC
  refine lv_lload_n hx hb dX0_poundStep_0 rfl (lv_at hl 0 rfl) ?_
  refine lv_bipush (v := 57) hx hb dX0_poundStep_1 (by decide) ?_
  refine lv_iconst (v := 3) hx hb dX0_poundStep_3 (by decide) ?_
  refine lv_iload_n hx hb dX0_poundStep_4 rfl (lv_at hl 1 rfl) ?_
  refine lv_imul hx hb dX0_poundStep_5 ?_
  refine k_i 3 (by decide +kernel) ?_
  refine lv_iadd hx hb dX0_poundStep_6 ?_
  refine k_i 60 (by decide +kernel) ?_
  refine lv_lshr (v := 0) hx hb dX0_poundStep_7 (by decide +kernel) ?_
  refine lv_l2i (v := 0) hx hb dX0_poundStep_8 (by decide +kernel) ?_
  refine lv_bipush (v := 7) hx hb dX0_poundStep_9 (by decide) ?_
  refine lv_iand hx hb dX0_poundStep_11 ?_
  refine k_i 0 (by decide +kernel) ?_
  exact k_iret hC hr hlk hK hP hD hS () [] rfl (by decide) rfl (Nat.le_of_ble_eq_true rfl) (Nat.le_of_ble_eq_true rfl) dX0_poundStep_12
set_option maxHeartbeats 4000000 in
set_option maxRecDepth 100000 in
theorem c76_X7_poundOf (l : Launch) (G : va_G) (cI cJ cB cZ : ClassId) (a0 a1 a2 a3 a4 a5 a6 a7 a8 a9 a10 a11 : Nat) : Con l G (TY cI cJ cB cZ) yX7_poundOf cX7_poundOf 4 (some .int) ({ frames := 1, cells := 0, slots := 0, locals := 22 } : Room) [.ref a0, .long 0, .int 1] [(a0, .inr (7, [.int 100, .int 100, .int 0, .ref a1, .ref a2, .int 0, .ref a3, .ref a4, .ref a5, .ref a6, .ref a7, .ref a8, .ref a9, .ref a10, .ref a11])), (a1, .inl (cI, 2, .inl (upd (upd (fun _ => 0) 0 16) 1 16)))] (QI G (TY cI cJ cB cZ) (fun (r : Int32) (u : Unit) => r = 16) (fun u : Unit => [(a0, .inr (7, [.int 100, .int 100, .int 0, .ref a1, .ref a2, .int 0, .ref a3, .ref a4, .ref a5, .ref a6, .ref a7, .ref a8, .ref a9, .ref a10, .ref a11])), (a1, .inl (cI, 2, .inl (upd (upd (fun _ => 0) 0 16) 1 16)))])) := by
  refine k_met (by decide) (Nat.le_of_ble_eq_true rfl) ?_
  intro p e s m below meth c A ls hC hr hlk hnm hN hK hA hP hD hS hl
  have hl : lv_has ls 4 [(0, .ref a0), (1, .long 0), (3, .int 1)] := hl
  obtain ⟨hx, hb, hml, hown, hts⟩ := id hC
  refine lv_iload_n hx hb dX7_poundOf_0 rfl (lv_at hl 2 rfl) ?_
  refine lv_if_lt (tgt := 9) hx hb dX7_poundOf_1 (by decide) (fun c_ => absurd c_ (by decide +kernel)) (fun _ => ?_)
  refine lv_iload_n hx hb dX7_poundOf_4 rfl (lv_at hl 2 rfl) ?_
  refine lv_iconst (v := 2) hx hb dX7_poundOf_5 (by decide) ?_
  refine lv_icmp_lt (tgt := 11) hx hb dX7_poundOf_6 (by decide) (fun _ => ?_) (fun c_ => absurd (by decide +kernel) c_)
  refine lv_aload_n hx hb dX7_poundOf_11 rfl (lv_at hl 0 rfl) ?_
  refine k_get hC hK hP iX7 0 3 wf_X7_9 rfl (by decide) rfl rfl dX7_poundOf_12 ?_
  refine lv_iload_n hx hb dX7_poundOf_15 rfl (lv_at hl 2 rfl) ?_
  refine k_iald (v := 16) hC hK hP 1 1 rfl (by decide +kernel) (by decide) (by decide +kernel) dX7_poundOf_16 ?_
  refine lv_lload_n hx hb dX7_poundOf_17 rfl (lv_at hl 1 rfl) ?_
  refine lv_iload_n hx hb dX7_poundOf_18 rfl (lv_at hl 2 rfl) ?_
  refine k_ci (wr := [(a0, .inr (7, [.int 100, .int 100, .int 0, .ref a1, .ref a2, .int 0, .ref a3, .ref a4, .ref a5, .ref a6, .ref a7, .ref a8, .ref a9, .ref a10, .ref a11])), (a1, .inl (cI, 2, .inl (upd (upd (fun _ => 0) 0 16) 1 16)))]) (k_rS hC hN hK hP hD (c75_X0_poundStep l G cI cJ cB cZ) [] rfl (by decide) mi_X0_poundStep st_X0_poundStep wm_X7_101 hl.1 rfl rfl (Nat.le_of_ble_eq_true rfl) ⟨(Nat.le_of_ble_eq_true rfl), (Nat.le_of_ble_eq_true rfl)⟩ dX7_poundOf_19 ⟨(Nat.le_of_ble_eq_true rfl), (Nat.le_of_ble_eq_true rfl)⟩) hP hD hS hA [] [0, 1] rfl rfl (by decide) (by decide) (fun r1 u1 H locs hp hP hD hS => ?_)
  have hP : va_P G cl [(a0, .inr (7, [.int 100, .int 100, .int 0, .ref a1, .ref a2, .int 0, .ref a3, .ref a4, .ref a5, .ref a6, .ref a7, .ref a8, .ref a9, .ref a10, .ref a11])), (a1, .inl (cI, 2, .inl (upd (upd (fun _ => 0) 0 16) 1 16)))] H := hP
  have hD : va_D A [(a0, .inr (7, [.int 100, .int 100, .int 0, .ref a1, .ref a2, .int 0, .ref a3, .ref a4, .ref a5, .ref a6, .ref a7, .ref a8, .ref a9, .ref a10, .ref a11])), (a1, .inl (cI, 2, .inl (upd (upd (fun _ => 0) 0 16) 1 16)))] := hD
  subst hp
  refine lv_iadd hx hb dX7_poundOf_22 ?_
  refine k_i 16 (by decide +kernel) ?_
  exact k_iret hC hr hlk hK hP hD hS () [0, 1] rfl (by decide) rfl (Nat.le_of_ble_eq_true rfl) (Nat.le_of_ble_eq_true rfl) dX7_poundOf_23
set_option maxHeartbeats 4000000 in
set_option maxRecDepth 100000 in
theorem c77_X7_partOf (l : Launch) (G : va_G) (cI cJ cB cZ : ClassId) (a0 a1 a2 a3 a4 a5 a6 a7 a8 a9 a10 a11 : Nat) : Con l G (TY cI cJ cB cZ) yX7_partOf cX7_partOf 4 (some .int) ({ frames := 2, cells := 0, slots := 0, locals := 45 } : Room) [.ref a0, .long 0, .int 2] [(a0, .inr (7, [.int 100, .int 100, .int 0, .ref a1, .ref a2, .int 0, .ref a3, .ref a4, .ref a5, .ref a6, .ref a7, .ref a8, .ref a9, .ref a10, .ref a11])), (a1, .inl (cI, 2, .inl (upd (upd (fun _ => 0) 0 16) 1 16)))] (QI G (TY cI cJ cB cZ) (fun (r : Int32) (u : Unit) => r = 16) (fun u : Unit => [(a0, .inr (7, [.int 100, .int 100, .int 0, .ref a1, .ref a2, .int 0, .ref a3, .ref a4, .ref a5, .ref a6, .ref a7, .ref a8, .ref a9, .ref a10, .ref a11])), (a1, .inl (cI, 2, .inl (upd (upd (fun _ => 0) 0 16) 1 16)))])) := by
  refine k_met (by decide) (Nat.le_of_ble_eq_true rfl) ?_
  intro p e s m below meth c A ls hC hr hlk hnm hN hK hA hP hD hS hl
  have hl : lv_has ls 4 [(0, .ref a0), (1, .long 0), (3, .int 2)] := hl
  obtain ⟨hx, hb, hml, hown, hts⟩ := id hC
  refine lv_iload_n hx hb dX7_partOf_0 rfl (lv_at hl 2 rfl) ?_
  refine lv_if_gt (tgt := 10) hx hb dX7_partOf_1 (by decide) (fun _ => ?_) (fun c_ => absurd (by decide +kernel) c_)
  refine lv_iload_n hx hb dX7_partOf_10 rfl (lv_at hl 2 rfl) ?_
  refine lv_iconst (v := 3) hx hb dX7_partOf_11 (by decide) ?_
  refine lv_icmp_ge (tgt := 24) hx hb dX7_partOf_12 (by decide) (fun c_ => absurd c_ (by decide +kernel)) (fun _ => ?_)
  refine lv_aload_n hx hb dX7_partOf_15 rfl (lv_at hl 0 rfl) ?_
  refine lv_lload_n hx hb dX7_partOf_16 rfl (lv_at hl 1 rfl) ?_
  refine lv_iload_n hx hb dX7_partOf_17 rfl (lv_at hl 2 rfl) ?_
  refine lv_iconst (v := 1) hx hb dX7_partOf_18 (by decide) ?_
  refine lv_isub hx hb dX7_partOf_19 ?_
  refine k_i 1 (by decide +kernel) ?_
  refine k_ci (wr := []) (k_rV hC hN hK hP hD (c76_X7_poundOf l G cI cJ cB cZ a0 a1 a2 a3 a4 a5 a6 a7 a8 a9 a10 a11) [0, 1] rfl (by decide) mi_X7_poundOf in_X7_poundOf se_X7_poundOf wm_X7_108 7 0 rfl rfl rfl hl.1 rfl rfl (Nat.le_of_ble_eq_true rfl) ⟨(Nat.le_of_ble_eq_true rfl), (Nat.le_of_ble_eq_true rfl)⟩ dX7_partOf_20 ⟨(Nat.le_of_ble_eq_true rfl), (Nat.le_of_ble_eq_true rfl)⟩) hP hD hS hA [0, 1] [] rfl rfl (by decide) (by decide) (fun r1 u1 H locs hp hP hD hS => ?_)
  have hP : va_P G cl [(a0, .inr (7, [.int 100, .int 100, .int 0, .ref a1, .ref a2, .int 0, .ref a3, .ref a4, .ref a5, .ref a6, .ref a7, .ref a8, .ref a9, .ref a10, .ref a11])), (a1, .inl (cI, 2, .inl (upd (upd (fun _ => 0) 0 16) 1 16)))] H := hP
  have hD : va_D A [(a0, .inr (7, [.int 100, .int 100, .int 0, .ref a1, .ref a2, .int 0, .ref a3, .ref a4, .ref a5, .ref a6, .ref a7, .ref a8, .ref a9, .ref a10, .ref a11])), (a1, .inl (cI, 2, .inl (upd (upd (fun _ => 0) 0 16) 1 16)))] := hD
  subst hp
  exact k_iret hC hr hlk hK hP hD hS () [0, 1] rfl (by decide) rfl (Nat.le_of_ble_eq_true rfl) (Nat.le_of_ble_eq_true rfl) dX7_partOf_23
theorem dX9_fit_0 : decode cX9_fit 0 = .ok (.aload_n 0, 1) := by decide +kernel
theorem dX9_fit_1 : decode cX9_fit 1 = .ok (.iload_n 2, 1) := by decide +kernel
theorem dX9_fit_2 : decode cX9_fit 2 = .ok (.invokevirtual 129, 3) := by decide +kernel
set_option maxRecDepth 100000 in
theorem wm_X9_129 : Cond.methodLink RX9 129 yX9_isPart ∈ gw := gm (List.mem_of_getElem? (i := 930) (by decide +kernel)) rfl
set_option maxRecDepth 100000 in
theorem mi_X9_isPart : MI yX9_isPart cX9_isPart 2 (some .boolean) 1 := ⟨gm (List.mem_of_getElem? (i := 933) rfl) rfl, gm (List.mem_of_getElem? (i := 112) (by decide +kernel)) rfl, by decide, by decide, by decide +kernel⟩
set_option maxRecDepth 100000 in
theorem in_X9_isPart : Cond.instanceMethod yX9_isPart ∈ gw := gm (List.mem_of_getElem? (i := 932) (by decide +kernel)) rfl
set_option maxRecDepth 100000 in
theorem se_X9_isPart : Cond.selects yX9_isPart.cls yX9_isPart yX9_isPart ∈ gw := gm (List.mem_of_getElem? (i := 35) (by decide +kernel)) rfl
theorem dX9_fit_5 : decode cX9_fit 5 = .ok (.ifCond .eq 16, 3) := by decide +kernel
theorem dX9_fit_8 : decode cX9_fit 8 = .ok (.iload_n 1, 1) := by decide +kernel
theorem dX9_fit_9 : decode cX9_fit 9 = .ok (.ifCond .lt 12, 3) := by decide +kernel
theorem dX9_fit_21 : decode cX9_fit 21 = .ok (.iconst (-1), 1) := by decide +kernel
theorem dX9_fit_22 : decode cX9_fit 22 = .ok (.ireturn, 1) := by decide +kernel
theorem dX9_fit_12 : decode cX9_fit 12 = .ok (.iload_n 1, 1) := by decide +kernel
theorem dX9_fit_13 : decode cX9_fit 13 = .ok (.aload_n 0, 1) := by decide +kernel
theorem dX9_fit_14 : decode cX9_fit 14 = .ok (.iload_n 3, 1) := by decide +kernel
theorem dX9_fit_15 : decode cX9_fit 15 = .ok (.invokevirtual 125, 3) := by decide +kernel
theorem dX9_fit_18 : decode cX9_fit 18 = .ok (.if_icmp .lt 5, 3) := by decide +kernel
theorem dX9_fit_23 : decode cX9_fit 23 = .ok (.aload_n 0, 1) := by decide +kernel
theorem dX9_fit_24 : decode cX9_fit 24 = .ok (.getfield 10, 3) := by decide +kernel
theorem dX9_fit_27 : decode cX9_fit 27 = .ok (.aload_n 0, 1) := by decide +kernel
theorem dX9_fit_28 : decode cX9_fit 28 = .ok (.getfield 50, 3) := by decide +kernel
theorem dX9_fit_31 : decode cX9_fit 31 = .ok (.iload_n 1, 1) := by decide +kernel
theorem dX9_fit_32 : decode cX9_fit 32 = .ok (.invokevirtual 132, 3) := by decide +kernel
set_option maxRecDepth 100000 in
theorem wm_X9_132 : Cond.methodLink RX9 132 yX0_row ∈ gw := gm (List.mem_of_getElem? (i := 934) (by decide +kernel)) rfl
set_option maxRecDepth 100000 in
theorem mi_X0_row : MI yX0_row cX0_row 2 (some .long) 1 := ⟨gm (List.mem_of_getElem? (i := 937) rfl) rfl, gm (List.mem_of_getElem? (i := 121) (by decide +kernel)) rfl, by decide, by decide, by decide +kernel⟩
set_option maxRecDepth 100000 in
theorem in_X0_row : Cond.instanceMethod yX0_row ∈ gw := gm (List.mem_of_getElem? (i := 935) (by decide +kernel)) rfl
set_option maxRecDepth 100000 in
theorem se_X0_row : Cond.selects yX0_row.cls yX0_row yX0_row ∈ gw := gm (List.mem_of_getElem? (i := 936) (by decide +kernel)) rfl
theorem dX9_fit_35 : decode cX9_fit 35 = .ok (.iload_n 2, 1) := by decide +kernel
theorem dX9_fit_36 : decode cX9_fit 36 = .ok (.invokevirtual 136, 3) := by decide +kernel
set_option maxRecDepth 100000 in
theorem wm_X9_136 : Cond.methodLink RX9 136 yX7_partOf ∈ gw := gm (List.mem_of_getElem? (i := 938) (by decide +kernel)) rfl
set_option maxRecDepth 100000 in
theorem mi_X7_partOf : MI yX7_partOf cX7_partOf 4 (some .int) 2 := ⟨gm (List.mem_of_getElem? (i := 941) rfl) rfl, gm (List.mem_of_getElem? (i := 113) (by decide +kernel)) rfl, by decide, by decide, by decide +kernel⟩
set_option maxRecDepth 100000 in
theorem in_X7_partOf : Cond.instanceMethod yX7_partOf ∈ gw := gm (List.mem_of_getElem? (i := 939) (by decide +kernel)) rfl
set_option maxRecDepth 100000 in
theorem se_X7_partOf : Cond.selects yX7_partOf.cls yX7_partOf yX7_partOf ∈ gw := gm (List.mem_of_getElem? (i := 940) (by decide +kernel)) rfl
theorem dX9_fit_39 : decode cX9_fit 39 = .ok (.ireturn, 1) := by decide +kernel
set_option maxHeartbeats 4000000 in
set_option maxRecDepth 100000 in
theorem c78_X9_fit (l : Launch) (G : va_G) (cI cJ cB cZ : ClassId) (a0 a1 a2 a3 a4 a5 a6 a7 a8 a9 a10 a11 a12 a13 a14 a15 a16 a17 a18 a19 a20 a21 a22 a23 a24 a25 a26 a27 a28 a29 a30 a31 a32 a33 a34 a35 a36 a37 a38 a39 a40 a41 a42 a43 a44 a45 a46 : Nat) (x0 : Int32) (x1 : Int32) (x2 : Int32) : Con l G (TY cI cJ cB cZ) yX9_fit cX9_fit 4 (some .int) ({ frames := 4, cells := 0, slots := 0, locals := 94 } : Room) [.ref a0, .int x0, .int x1, .int x2] [(a0, .inr (9, [.ref a1, .ref a2, .ref a3, .int 0, .int 0, .ref a4, .ref a5, .ref a6, .ref a7])), (a1, .inr (7, [.int 100, .int 100, .int 0, .ref a8, .ref a9, .int 0, .ref a10, .ref a11, .ref a12, .ref a13, .ref a14, .ref a15, .ref a16, .ref a17, .ref a18])), (a9, .inl (cI, 2, .inl (upd (upd (fun _ => 0) 0 16) 1 16))), (a8, .inl (cI, 2, .inl (upd (upd (fun _ => 0) 0 16) 1 16))), (a17, .inr (8, [.ref a19, .ref a20, .ref a21, .ref a22, .ref a23, .ref a24, .ref a25, .int 0])), (a3, .inr (8, [.ref a26, .ref a27, .ref a28, .ref a29, .ref a30, .ref a31, .ref a32, .int 0])), (a5, .inr (0, [.ref a33, .int 0, .int 0, .long 0, .int 0, .int 0, .long 0])), (a4, .inr (4, [.ref a34, .ref a5, .ref a35, .ref a36, .ref a37, .ref a38, .ref a39, .int 100, .int 0, .int 0, .int (-1)])), (a35, .inr (8, [.ref a40, .ref a41, .ref a42, .ref a43, .ref a44, .ref a45, .ref a46, .int 0])), (a36, .inl (cI, 7, .inl (fun _ => 0))), (a33, .inl (cJ, 256, .inr (.inl (fun _ => 0))))] (QI G (TY cI cJ cB cZ) (fun (r : Int32) (u : Unit) => r = sp_fit x0 x1) (fun u : Unit => [])) := by
  refine k_met (by decide) (Nat.le_of_ble_eq_true rfl) ?_
  intro p e s m below meth c A ls hC hr hlk hnm hN hK hA hP hD hS hl
  have hl : lv_has ls 4 [(0, .ref a0), (1, .int x0), (2, .int x1), (3, .int x2)] := hl
  obtain ⟨hx, hb, hml, hown, hts⟩ := id hC
  refine lv_aload_n hx hb dX9_fit_0 rfl (lv_at hl 0 rfl) ?_
  refine lv_iload_n hx hb dX9_fit_1 rfl (lv_at hl 2 rfl) ?_
  refine k_ci (wr := [(a9, .inl (cI, 2, .inl (upd (upd (fun _ => 0) 0 16) 1 16))), (a8, .inl (cI, 2, .inl (upd (upd (fun _ => 0) 0 16) 1 16))), (a17, .inr (8, [.ref a19, .ref a20, .ref a21, .ref a22, .ref a23, .ref a24, .ref a25, .int 0])), (a3, .inr (8, [.ref a26, .ref a27, .ref a28, .ref a29, .ref a30, .ref a31, .ref a32, .int 0])), (a5, .inr (0, [.ref a33, .int 0, .int 0, .long 0, .int 0, .int 0, .long 0])), (a4, .inr (4, [.ref a34, .ref a5, .ref a35, .ref a36, .ref a37, .ref a38, .ref a39, .int 100, .int 0, .int 0, .int (-1)])), (a35, .inr (8, [.ref a40, .ref a41, .ref a42, .ref a43, .ref a44, .ref a45, .ref a46, .int 0])), (a36, .inl (cI, 7, .inl (fun _ => 0))), (a33, .inl (cJ, 256, .inr (.inl (fun _ => 0))))]) (k_rV hC hN hK hP hD (c67_X9_isPart l G cI cJ cB cZ a0 a1 a2 a3 a4 a5 a6 a7 a8 a9 a10 a11 a12 a13 a14 a15 a16 a17 a18 x1) [0, 1] rfl (by decide) mi_X9_isPart in_X9_isPart se_X9_isPart wm_X9_129 9 0 rfl rfl rfl hl.1 rfl rfl (Nat.le_of_ble_eq_true rfl) ⟨(Nat.le_of_ble_eq_true rfl), (Nat.le_of_ble_eq_true rfl)⟩ dX9_fit_2 ⟨(Nat.le_of_ble_eq_true rfl), (Nat.le_of_ble_eq_true rfl)⟩) hP hD hS hA [0, 1] [2, 3, 4, 5, 6, 7, 8, 9, 10] rfl rfl (by decide) (by decide) (fun r1 u1 H locs hp hP hD hS => ?_)
  have hP : va_P G cl [(a9, .inl (cI, 2, .inl (upd (upd (fun _ => 0) 0 16) 1 16))), (a8, .inl (cI, 2, .inl (upd (upd (fun _ => 0) 0 16) 1 16))), (a17, .inr (8, [.ref a19, .ref a20, .ref a21, .ref a22, .ref a23, .ref a24, .ref a25, .int 0])), (a3, .inr (8, [.ref a26, .ref a27, .ref a28, .ref a29, .ref a30, .ref a31, .ref a32, .int 0])), (a5, .inr (0, [.ref a33, .int 0, .int 0, .long 0, .int 0, .int 0, .long 0])), (a4, .inr (4, [.ref a34, .ref a5, .ref a35, .ref a36, .ref a37, .ref a38, .ref a39, .int 100, .int 0, .int 0, .int (-1)])), (a35, .inr (8, [.ref a40, .ref a41, .ref a42, .ref a43, .ref a44, .ref a45, .ref a46, .int 0])), (a36, .inl (cI, 7, .inl (fun _ => 0))), (a33, .inl (cJ, 256, .inr (.inl (fun _ => 0)))), (a0, .inr (9, [.ref a1, .ref a2, .ref a3, .int 0, .int 0, .ref a4, .ref a5, .ref a6, .ref a7])), (a1, .inr (7, [.int 100, .int 100, .int 0, .ref a8, .ref a9, .int 0, .ref a10, .ref a11, .ref a12, .ref a13, .ref a14, .ref a15, .ref a16, .ref a17, .ref a18]))] H := hP
  have hD : va_D A [(a9, .inl (cI, 2, .inl (upd (upd (fun _ => 0) 0 16) 1 16))), (a8, .inl (cI, 2, .inl (upd (upd (fun _ => 0) 0 16) 1 16))), (a17, .inr (8, [.ref a19, .ref a20, .ref a21, .ref a22, .ref a23, .ref a24, .ref a25, .int 0])), (a3, .inr (8, [.ref a26, .ref a27, .ref a28, .ref a29, .ref a30, .ref a31, .ref a32, .int 0])), (a5, .inr (0, [.ref a33, .int 0, .int 0, .long 0, .int 0, .int 0, .long 0])), (a4, .inr (4, [.ref a34, .ref a5, .ref a35, .ref a36, .ref a37, .ref a38, .ref a39, .int 100, .int 0, .int 0, .int (-1)])), (a35, .inr (8, [.ref a40, .ref a41, .ref a42, .ref a43, .ref a44, .ref a45, .ref a46, .int 0])), (a36, .inl (cI, 7, .inl (fun _ => 0))), (a33, .inl (cJ, 256, .inr (.inl (fun _ => 0)))), (a0, .inr (9, [.ref a1, .ref a2, .ref a3, .int 0, .int 0, .ref a4, .ref a5, .ref a6, .ref a7])), (a1, .inr (7, [.int 100, .int 100, .int 0, .ref a8, .ref a9, .int 0, .ref a10, .ref a11, .ref a12, .ref a13, .ref a14, .ref a15, .ref a16, .ref a17, .ref a18]))] := hD
  rcases hp with ⟨rfl, hq1⟩ | ⟨rfl, hq1⟩
  · skip
    have e_2 : x1.toInt = 0 ∨ x1.toInt = 1 ∨ x1.toInt = 2 := by omega
    obtain rfl | rfl | rfl : x1 = 0 ∨ x1 = 1 ∨ x1 = 2 := by simp only [fa_eq]; exact e_2
    · skip
      refine lv_if_eq (tgt := 21) hx hb dX9_fit_5 (by decide) (fun c_ => absurd c_ (by decide +kernel)) (fun _ => ?_)
      refine lv_iload_n hx hb dX9_fit_8 rfl (lv_at hl 1 rfl) ?_
      refine lv_if_lt (tgt := 21) hx hb dX9_fit_9 (by decide) (fun c_3 => ?_) (fun c_3 => ?_)
      · have d_3 : x0.toInt < 0 := (fa_lt _ _).mp c_3
        refine lv_iconst (v := (-1)) hx hb dX9_fit_21 (by decide) ?_
        exact k_iret hC hr hlk hK hP hD hS () [] rfl (by decide) (by first | decide | (unfold sp_fit; rw [if_neg (by omega)]) | (unfold sp_fit; rw [if_pos (by omega)])) (Nat.le_of_ble_eq_true rfl) (Nat.le_of_ble_eq_true rfl) dX9_fit_22
      · have d_3 : 0 ≤ x0.toInt := fa_nlt c_3
        refine lv_iload_n hx hb dX9_fit_12 rfl (lv_at hl 1 rfl) ?_
        refine lv_aload_n hx hb dX9_fit_13 rfl (lv_at hl 0 rfl) ?_
        refine lv_iload_n hx hb dX9_fit_14 rfl (lv_at hl 3 rfl) ?_
        refine k_ci (wr := []) (k_rV hC hN hK hP hD (c65_X9_known l G cI cJ cB cZ a0 a1 a2 a3 a4 a5 a6 a7 a8 a9 a10 a11 a12 a13 a14 a15 a16 a17 a18 a19 a20 a21 a22 a23 a24 a25 a26 a27 a28 a29 a30 a31 a32 a33 a34 a35 a36 a37 a38 a39 a40 a41 a42 a43 a44 a45 a46 x2) [9, 10, 0, 1, 2, 3, 4, 5, 6, 7, 8] rfl (by decide) mi_X9_known in_X9_known se_X9_known wm_X9_125 9 9 rfl rfl rfl hl.1 rfl rfl (Nat.le_of_ble_eq_true rfl) ⟨(Nat.le_of_ble_eq_true rfl), (Nat.le_of_ble_eq_true rfl)⟩ dX9_fit_15 ⟨(Nat.le_of_ble_eq_true rfl), (Nat.le_of_ble_eq_true rfl)⟩) hP hD hS hA [9, 10, 0, 1, 2, 3, 4, 5, 6, 7, 8] [] rfl rfl (by decide) (by decide) (fun r4 u4 H locs hp hP hD hS => ?_)
        have hP : va_P G cl [(a0, .inr (9, [.ref a1, .ref a2, .ref a3, .int 0, .int 0, .ref a4, .ref a5, .ref a6, .ref a7])), (a1, .inr (7, [.int 100, .int 100, .int 0, .ref a8, .ref a9, .int 0, .ref a10, .ref a11, .ref a12, .ref a13, .ref a14, .ref a15, .ref a16, .ref a17, .ref a18])), (a9, .inl (cI, 2, .inl (upd (upd (fun _ => 0) 0 16) 1 16))), (a8, .inl (cI, 2, .inl (upd (upd (fun _ => 0) 0 16) 1 16))), (a17, .inr (8, [.ref a19, .ref a20, .ref a21, .ref a22, .ref a23, .ref a24, .ref a25, .int 0])), (a3, .inr (8, [.ref a26, .ref a27, .ref a28, .ref a29, .ref a30, .ref a31, .ref a32, .int 0])), (a5, .inr (0, [.ref a33, .int 1, .int 1, .long 0, .int 1, .int 0, .long 0])), (a4, .inr (4, [.ref a1, .ref a5, .ref a35, .ref a36, .ref a37, .ref a38, .ref a39, .int 100, .int 0, .int 0, .int (-1)])), (a35, .inr (8, [.ref a40, .ref a41, .ref a42, .ref a43, .ref a44, .ref a45, .ref a46, .int 0])), (a36, .inl (cI, 7, .inl (fun _ => 0))), (a33, .inl (cJ, 256, .inr (.inl (vp_updL (fun _ => 0) 0 0))))] H := hP
        have hD : va_D A [(a0, .inr (9, [.ref a1, .ref a2, .ref a3, .int 0, .int 0, .ref a4, .ref a5, .ref a6, .ref a7])), (a1, .inr (7, [.int 100, .int 100, .int 0, .ref a8, .ref a9, .int 0, .ref a10, .ref a11, .ref a12, .ref a13, .ref a14, .ref a15, .ref a16, .ref a17, .ref a18])), (a9, .inl (cI, 2, .inl (upd (upd (fun _ => 0) 0 16) 1 16))), (a8, .inl (cI, 2, .inl (upd (upd (fun _ => 0) 0 16) 1 16))), (a17, .inr (8, [.ref a19, .ref a20, .ref a21, .ref a22, .ref a23, .ref a24, .ref a25, .int 0])), (a3, .inr (8, [.ref a26, .ref a27, .ref a28, .ref a29, .ref a30, .ref a31, .ref a32, .int 0])), (a5, .inr (0, [.ref a33, .int 1, .int 1, .long 0, .int 1, .int 0, .long 0])), (a4, .inr (4, [.ref a1, .ref a5, .ref a35, .ref a36, .ref a37, .ref a38, .ref a39, .int 100, .int 0, .int 0, .int (-1)])), (a35, .inr (8, [.ref a40, .ref a41, .ref a42, .ref a43, .ref a44, .ref a45, .ref a46, .int 0])), (a36, .inl (cI, 7, .inl (fun _ => 0))), (a33, .inl (cJ, 256, .inr (.inl (vp_updL (fun _ => 0) 0 0))))] := hD
        subst hp
        refine lv_icmp_lt (tgt := 23) hx hb dX9_fit_18 (by decide) (fun c_5 => ?_) (fun c_5 => ?_)
        · have d_5 : x0.toInt < 1 := (fa_lt _ _).mp c_5
          obtain rfl : x0 = 0 := (fa_eq _ _).mpr (show x0.toInt = 0 by omega)
          refine lv_aload_n hx hb dX9_fit_23 rfl (lv_at hl 0 rfl) ?_
          refine k_get hC hK hP iX9 0 0 wf_X9_10 rfl (by decide) rfl rfl dX9_fit_24 ?_
          refine lv_aload_n hx hb dX9_fit_27 rfl (lv_at hl 0 rfl) ?_
          refine k_get hC hK hP iX9 0 6 wf_X9_50 rfl (by decide) rfl rfl dX9_fit_28 ?_
          refine lv_iload_n hx hb dX9_fit_31 rfl (lv_at hl 1 rfl) ?_
          refine k_cl (wr := [(a0, .inr (9, [.ref a1, .ref a2, .ref a3, .int 0, .int 0, .ref a4, .ref a5, .ref a6, .ref a7])), (a1, .inr (7, [.int 100, .int 100, .int 0, .ref a8, .ref a9, .int 0, .ref a10, .ref a11, .ref a12, .ref a13, .ref a14, .ref a15, .ref a16, .ref a17, .ref a18])), (a9, .inl (cI, 2, .inl (upd (upd (fun _ => 0) 0 16) 1 16))), (a8, .inl (cI, 2, .inl (upd (upd (fun _ => 0) 0 16) 1 16))), (a17, .inr (8, [.ref a19, .ref a20, .ref a21, .ref a22, .ref a23, .ref a24, .ref a25, .int 0])), (a3, .inr (8, [.ref a26, .ref a27, .ref a28, .ref a29, .ref a30, .ref a31, .ref a32, .int 0])), (a4, .inr (4, [.ref a1, .ref a5, .ref a35, .ref a36, .ref a37, .ref a38, .ref a39, .int 100, .int 0, .int 0, .int (-1)])), (a35, .inr (8, [.ref a40, .ref a41, .ref a42, .ref a43, .ref a44, .ref a45, .ref a46, .int 0])), (a36, .inl (cI, 7, .inl (fun _ => 0)))]) (k_rV hC hN hK hP hD (c68_X0_row l G cI cJ cB cZ a5 a33) [6, 10] rfl (by decide) mi_X0_row in_X0_row se_X0_row wm_X9_132 0 6 rfl rfl rfl hl.1 rfl rfl (Nat.le_of_ble_eq_true rfl) ⟨(Nat.le_of_ble_eq_true rfl), (Nat.le_of_ble_eq_true rfl)⟩ dX9_fit_32 ⟨(Nat.le_of_ble_eq_true rfl), (Nat.le_of_ble_eq_true rfl)⟩) hP hD hS hA [6, 10] [0, 1, 2, 3, 4, 5, 7, 8, 9] rfl rfl (by decide) (by decide) (fun r6 u6 H locs hp hP hD hS => ?_)
          have hP : va_P G cl [(a0, .inr (9, [.ref a1, .ref a2, .ref a3, .int 0, .int 0, .ref a4, .ref a5, .ref a6, .ref a7])), (a1, .inr (7, [.int 100, .int 100, .int 0, .ref a8, .ref a9, .int 0, .ref a10, .ref a11, .ref a12, .ref a13, .ref a14, .ref a15, .ref a16, .ref a17, .ref a18])), (a9, .inl (cI, 2, .inl (upd (upd (fun _ => 0) 0 16) 1 16))), (a8, .inl (cI, 2, .inl (upd (upd (fun _ => 0) 0 16) 1 16))), (a17, .inr (8, [.ref a19, .ref a20, .ref a21, .ref a22, .ref a23, .ref a24, .ref a25, .int 0])), (a3, .inr (8, [.ref a26, .ref a27, .ref a28, .ref a29, .ref a30, .ref a31, .ref a32, .int 0])), (a4, .inr (4, [.ref a1, .ref a5, .ref a35, .ref a36, .ref a37, .ref a38, .ref a39, .int 100, .int 0, .int 0, .int (-1)])), (a35, .inr (8, [.ref a40, .ref a41, .ref a42, .ref a43, .ref a44, .ref a45, .ref a46, .int 0])), (a36, .inl (cI, 7, .inl (fun _ => 0))), (a5, .inr (0, [.ref a33, .int 1, .int 1, .long 0, .int 1, .int 0, .long 0])), (a33, .inl (cJ, 256, .inr (.inl (vp_updL (fun _ => 0) 0 0))))] H := hP
          have hD : va_D A [(a0, .inr (9, [.ref a1, .ref a2, .ref a3, .int 0, .int 0, .ref a4, .ref a5, .ref a6, .ref a7])), (a1, .inr (7, [.int 100, .int 100, .int 0, .ref a8, .ref a9, .int 0, .ref a10, .ref a11, .ref a12, .ref a13, .ref a14, .ref a15, .ref a16, .ref a17, .ref a18])), (a9, .inl (cI, 2, .inl (upd (upd (fun _ => 0) 0 16) 1 16))), (a8, .inl (cI, 2, .inl (upd (upd (fun _ => 0) 0 16) 1 16))), (a17, .inr (8, [.ref a19, .ref a20, .ref a21, .ref a22, .ref a23, .ref a24, .ref a25, .int 0])), (a3, .inr (8, [.ref a26, .ref a27, .ref a28, .ref a29, .ref a30, .ref a31, .ref a32, .int 0])), (a4, .inr (4, [.ref a1, .ref a5, .ref a35, .ref a36, .ref a37, .ref a38, .ref a39, .int 100, .int 0, .int 0, .int (-1)])), (a35, .inr (8, [.ref a40, .ref a41, .ref a42, .ref a43, .ref a44, .ref a45, .ref a46, .int 0])), (a36, .inl (cI, 7, .inl (fun _ => 0))), (a5, .inr (0, [.ref a33, .int 1, .int 1, .long 0, .int 1, .int 0, .long 0])), (a33, .inl (cJ, 256, .inr (.inl (vp_updL (fun _ => 0) 0 0))))] := hD
          subst hp
          refine lv_iload_n hx hb dX9_fit_35 rfl (lv_at hl 2 rfl) ?_
          refine k_ci (wr := [(a0, .inr (9, [.ref a1, .ref a2, .ref a3, .int 0, .int 0, .ref a4, .ref a5, .ref a6, .ref a7])), (a9, .inl (cI, 2, .inl (upd (upd (fun _ => 0) 0 16) 1 16))), (a8, .inl (cI, 2, .inl (upd (upd (fun _ => 0) 0 16) 1 16))), (a17, .inr (8, [.ref a19, .ref a20, .ref a21, .ref a22, .ref a23, .ref a24, .ref a25, .int 0])), (a3, .inr (8, [.ref a26, .ref a27, .ref a28, .ref a29, .ref a30, .ref a31, .ref a32, .int 0])), (a4, .inr (4, [.ref a1, .ref a5, .ref a35, .ref a36, .ref a37, .ref a38, .ref a39, .int 100, .int 0, .int 0, .int (-1)])), (a35, .inr (8, [.ref a40, .ref a41, .ref a42, .ref a43, .ref a44, .ref a45, .ref a46, .int 0])), (a36, .inl (cI, 7, .inl (fun _ => 0))), (a5, .inr (0, [.ref a33, .int 1, .int 1, .long 0, .int 1, .int 0, .long 0])), (a33, .inl (cJ, 256, .inr (.inl (vp_updL (fun _ => 0) 0 0))))]) (k_rV hC hN hK hP hD (c71_X7_partOf l G cI cJ cB cZ a1 a8 a9 a10 a11 a12 a13 a14 a15 a16 a17 a18) [1] rfl (by decide) mi_X7_partOf in_X7_partOf se_X7_partOf wm_X9_136 7 1 rfl rfl rfl hl.1 rfl rfl (Nat.le_of_ble_eq_true rfl) ⟨(Nat.le_of_ble_eq_true rfl), (Nat.le_of_ble_eq_true rfl)⟩ dX9_fit_36 ⟨(Nat.le_of_ble_eq_true rfl), (Nat.le_of_ble_eq_true rfl)⟩) hP hD hS hA [1] [0, 2, 3, 4, 5, 6, 7, 8, 9, 10] rfl rfl (by decide) (by decide) (fun r7 u7 H locs hp hP hD hS => ?_)
          have hP : va_P G cl [(a0, .inr (9, [.ref a1, .ref a2, .ref a3, .int 0, .int 0, .ref a4, .ref a5, .ref a6, .ref a7])), (a9, .inl (cI, 2, .inl (upd (upd (fun _ => 0) 0 16) 1 16))), (a8, .inl (cI, 2, .inl (upd (upd (fun _ => 0) 0 16) 1 16))), (a17, .inr (8, [.ref a19, .ref a20, .ref a21, .ref a22, .ref a23, .ref a24, .ref a25, .int 0])), (a3, .inr (8, [.ref a26, .ref a27, .ref a28, .ref a29, .ref a30, .ref a31, .ref a32, .int 0])), (a4, .inr (4, [.ref a1, .ref a5, .ref a35, .ref a36, .ref a37, .ref a38, .ref a39, .int 100, .int 0, .int 0, .int (-1)])), (a35, .inr (8, [.ref a40, .ref a41, .ref a42, .ref a43, .ref a44, .ref a45, .ref a46, .int 0])), (a36, .inl (cI, 7, .inl (fun _ => 0))), (a5, .inr (0, [.ref a33, .int 1, .int 1, .long 0, .int 1, .int 0, .long 0])), (a33, .inl (cJ, 256, .inr (.inl (vp_updL (fun _ => 0) 0 0)))), (a1, .inr (7, [.int 100, .int 100, .int 0, .ref a8, .ref a9, .int 0, .ref a10, .ref a11, .ref a12, .ref a13, .ref a14, .ref a15, .ref a16, .ref a17, .ref a18]))] H := hP
          have hD : va_D A [(a0, .inr (9, [.ref a1, .ref a2, .ref a3, .int 0, .int 0, .ref a4, .ref a5, .ref a6, .ref a7])), (a9, .inl (cI, 2, .inl (upd (upd (fun _ => 0) 0 16) 1 16))), (a8, .inl (cI, 2, .inl (upd (upd (fun _ => 0) 0 16) 1 16))), (a17, .inr (8, [.ref a19, .ref a20, .ref a21, .ref a22, .ref a23, .ref a24, .ref a25, .int 0])), (a3, .inr (8, [.ref a26, .ref a27, .ref a28, .ref a29, .ref a30, .ref a31, .ref a32, .int 0])), (a4, .inr (4, [.ref a1, .ref a5, .ref a35, .ref a36, .ref a37, .ref a38, .ref a39, .int 100, .int 0, .int 0, .int (-1)])), (a35, .inr (8, [.ref a40, .ref a41, .ref a42, .ref a43, .ref a44, .ref a45, .ref a46, .int 0])), (a36, .inl (cI, 7, .inl (fun _ => 0))), (a5, .inr (0, [.ref a33, .int 1, .int 1, .long 0, .int 1, .int 0, .long 0])), (a33, .inl (cJ, 256, .inr (.inl (vp_updL (fun _ => 0) 0 0)))), (a1, .inr (7, [.int 100, .int 100, .int 0, .ref a8, .ref a9, .int 0, .ref a10, .ref a11, .ref a12, .ref a13, .ref a14, .ref a15, .ref a16, .ref a17, .ref a18]))] := hD
          subst hp
          exact k_iret hC hr hlk hK hP hD hS () [] rfl (by decide) (by first | decide | (unfold sp_fit; rw [if_neg (by omega)]) | (unfold sp_fit; rw [if_pos (by omega)])) (Nat.le_of_ble_eq_true rfl) (Nat.le_of_ble_eq_true rfl) dX9_fit_39
        · have d_5 : 1 ≤ x0.toInt := fa_nlt c_5
          refine lv_iconst (v := (-1)) hx hb dX9_fit_21 (by decide) ?_
          exact k_iret hC hr hlk hK hP hD hS () [] rfl (by decide) (by first | decide | (unfold sp_fit; rw [if_neg (by omega)]) | (unfold sp_fit; rw [if_pos (by omega)])) (Nat.le_of_ble_eq_true rfl) (Nat.le_of_ble_eq_true rfl) dX9_fit_22
    · skip
      refine lv_if_eq (tgt := 21) hx hb dX9_fit_5 (by decide) (fun c_ => absurd c_ (by decide +kernel)) (fun _ => ?_)
      refine lv_iload_n hx hb dX9_fit_8 rfl (lv_at hl 1 rfl) ?_
      refine lv_if_lt (tgt := 21) hx hb dX9_fit_9 (by decide) (fun c_8 => ?_) (fun c_8 => ?_)
      · have d_8 : x0.toInt < 0 := (fa_lt _ _).mp c_8
        refine lv_iconst (v := (-1)) hx hb dX9_fit_21 (by decide) ?_
        exact k_iret hC hr hlk hK hP hD hS () [] rfl (by decide) (by first | decide | (unfold sp_fit; rw [if_neg (by omega)]) | (unfold sp_fit; rw [if_pos (by omega)])) (Nat.le_of_ble_eq_true rfl) (Nat.le_of_ble_eq_true rfl) dX9_fit_22
      · have d_8 : 0 ≤ x0.toInt := fa_nlt c_8
        refine lv_iload_n hx hb dX9_fit_12 rfl (lv_at hl 1 rfl) ?_
        refine lv_aload_n hx hb dX9_fit_13 rfl (lv_at hl 0 rfl) ?_
        refine lv_iload_n hx hb dX9_fit_14 rfl (lv_at hl 3 rfl) ?_
        refine k_ci (wr := []) (k_rV hC hN hK hP hD (c65_X9_known l G cI cJ cB cZ a0 a1 a2 a3 a4 a5 a6 a7 a8 a9 a10 a11 a12 a13 a14 a15 a16 a17 a18 a19 a20 a21 a22 a23 a24 a25 a26 a27 a28 a29 a30 a31 a32 a33 a34 a35 a36 a37 a38 a39 a40 a41 a42 a43 a44 a45 a46 x2) [9, 10, 0, 1, 2, 3, 4, 5, 6, 7, 8] rfl (by decide) mi_X9_known in_X9_known se_X9_known wm_X9_125 9 9 rfl rfl rfl hl.1 rfl rfl (Nat.le_of_ble_eq_true rfl) ⟨(Nat.le_of_ble_eq_true rfl), (Nat.le_of_ble_eq_true rfl)⟩ dX9_fit_15 ⟨(Nat.le_of_ble_eq_true rfl), (Nat.le_of_ble_eq_true rfl)⟩) hP hD hS hA [9, 10, 0, 1, 2, 3, 4, 5, 6, 7, 8] [] rfl rfl (by decide) (by decide) (fun r9 u9 H locs hp hP hD hS => ?_)
        have hP : va_P G cl [(a0, .inr (9, [.ref a1, .ref a2, .ref a3, .int 0, .int 0, .ref a4, .ref a5, .ref a6, .ref a7])), (a1, .inr (7, [.int 100, .int 100, .int 0, .ref a8, .ref a9, .int 0, .ref a10, .ref a11, .ref a12, .ref a13, .ref a14, .ref a15, .ref a16, .ref a17, .ref a18])), (a9, .inl (cI, 2, .inl (upd (upd (fun _ => 0) 0 16) 1 16))), (a8, .inl (cI, 2, .inl (upd (upd (fun _ => 0) 0 16) 1 16))), (a17, .inr (8, [.ref a19, .ref a20, .ref a21, .ref a22, .ref a23, .ref a24, .ref a25, .int 0])), (a3, .inr (8, [.ref a26, .ref a27, .ref a28, .ref a29, .ref a30, .ref a31, .ref a32, .int 0])), (a5, .inr (0, [.ref a33, .int 1, .int 1, .long 0, .int 1, .int 0, .long 0])), (a4, .inr (4, [.ref a1, .ref a5, .ref a35, .ref a36, .ref a37, .ref a38, .ref a39, .int 100, .int 0, .int 0, .int (-1)])), (a35, .inr (8, [.ref a40, .ref a41, .ref a42, .ref a43, .ref a44, .ref a45, .ref a46, .int 0])), (a36, .inl (cI, 7, .inl (fun _ => 0))), (a33, .inl (cJ, 256, .inr (.inl (vp_updL (fun _ => 0) 0 0))))] H := hP
        have hD : va_D A [(a0, .inr (9, [.ref a1, .ref a2, .ref a3, .int 0, .int 0, .ref a4, .ref a5, .ref a6, .ref a7])), (a1, .inr (7, [.int 100, .int 100, .int 0, .ref a8, .ref a9, .int 0, .ref a10, .ref a11, .ref a12, .ref a13, .ref a14, .ref a15, .ref a16, .ref a17, .ref a18])), (a9, .inl (cI, 2, .inl (upd (upd (fun _ => 0) 0 16) 1 16))), (a8, .inl (cI, 2, .inl (upd (upd (fun _ => 0) 0 16) 1 16))), (a17, .inr (8, [.ref a19, .ref a20, .ref a21, .ref a22, .ref a23, .ref a24, .ref a25, .int 0])), (a3, .inr (8, [.ref a26, .ref a27, .ref a28, .ref a29, .ref a30, .ref a31, .ref a32, .int 0])), (a5, .inr (0, [.ref a33, .int 1, .int 1, .long 0, .int 1, .int 0, .long 0])), (a4, .inr (4, [.ref a1, .ref a5, .ref a35, .ref a36, .ref a37, .ref a38, .ref a39, .int 100, .int 0, .int 0, .int (-1)])), (a35, .inr (8, [.ref a40, .ref a41, .ref a42, .ref a43, .ref a44, .ref a45, .ref a46, .int 0])), (a36, .inl (cI, 7, .inl (fun _ => 0))), (a33, .inl (cJ, 256, .inr (.inl (vp_updL (fun _ => 0) 0 0))))] := hD
        subst hp
        refine lv_icmp_lt (tgt := 23) hx hb dX9_fit_18 (by decide) (fun c_10 => ?_) (fun c_10 => ?_)
        · have d_10 : x0.toInt < 1 := (fa_lt _ _).mp c_10
          obtain rfl : x0 = 0 := (fa_eq _ _).mpr (show x0.toInt = 0 by omega)
          refine lv_aload_n hx hb dX9_fit_23 rfl (lv_at hl 0 rfl) ?_
          refine k_get hC hK hP iX9 0 0 wf_X9_10 rfl (by decide) rfl rfl dX9_fit_24 ?_
          refine lv_aload_n hx hb dX9_fit_27 rfl (lv_at hl 0 rfl) ?_
          refine k_get hC hK hP iX9 0 6 wf_X9_50 rfl (by decide) rfl rfl dX9_fit_28 ?_
          refine lv_iload_n hx hb dX9_fit_31 rfl (lv_at hl 1 rfl) ?_
          refine k_cl (wr := [(a0, .inr (9, [.ref a1, .ref a2, .ref a3, .int 0, .int 0, .ref a4, .ref a5, .ref a6, .ref a7])), (a1, .inr (7, [.int 100, .int 100, .int 0, .ref a8, .ref a9, .int 0, .ref a10, .ref a11, .ref a12, .ref a13, .ref a14, .ref a15, .ref a16, .ref a17, .ref a18])), (a9, .inl (cI, 2, .inl (upd (upd (fun _ => 0) 0 16) 1 16))), (a8, .inl (cI, 2, .inl (upd (upd (fun _ => 0) 0 16) 1 16))), (a17, .inr (8, [.ref a19, .ref a20, .ref a21, .ref a22, .ref a23, .ref a24, .ref a25, .int 0])), (a3, .inr (8, [.ref a26, .ref a27, .ref a28, .ref a29, .ref a30, .ref a31, .ref a32, .int 0])), (a4, .inr (4, [.ref a1, .ref a5, .ref a35, .ref a36, .ref a37, .ref a38, .ref a39, .int 100, .int 0, .int 0, .int (-1)])), (a35, .inr (8, [.ref a40, .ref a41, .ref a42, .ref a43, .ref a44, .ref a45, .ref a46, .int 0])), (a36, .inl (cI, 7, .inl (fun _ => 0)))]) (k_rV hC hN hK hP hD (c68_X0_row l G cI cJ cB cZ a5 a33) [6, 10] rfl (by decide) mi_X0_row in_X0_row se_X0_row wm_X9_132 0 6 rfl rfl rfl hl.1 rfl rfl (Nat.le_of_ble_eq_true rfl) ⟨(Nat.le_of_ble_eq_true rfl), (Nat.le_of_ble_eq_true rfl)⟩ dX9_fit_32 ⟨(Nat.le_of_ble_eq_true rfl), (Nat.le_of_ble_eq_true rfl)⟩) hP hD hS hA [6, 10] [0, 1, 2, 3, 4, 5, 7, 8, 9] rfl rfl (by decide) (by decide) (fun r11 u11 H locs hp hP hD hS => ?_)
          have hP : va_P G cl [(a0, .inr (9, [.ref a1, .ref a2, .ref a3, .int 0, .int 0, .ref a4, .ref a5, .ref a6, .ref a7])), (a1, .inr (7, [.int 100, .int 100, .int 0, .ref a8, .ref a9, .int 0, .ref a10, .ref a11, .ref a12, .ref a13, .ref a14, .ref a15, .ref a16, .ref a17, .ref a18])), (a9, .inl (cI, 2, .inl (upd (upd (fun _ => 0) 0 16) 1 16))), (a8, .inl (cI, 2, .inl (upd (upd (fun _ => 0) 0 16) 1 16))), (a17, .inr (8, [.ref a19, .ref a20, .ref a21, .ref a22, .ref a23, .ref a24, .ref a25, .int 0])), (a3, .inr (8, [.ref a26, .ref a27, .ref a28, .ref a29, .ref a30, .ref a31, .ref a32, .int 0])), (a4, .inr (4, [.ref a1, .ref a5, .ref a35, .ref a36, .ref a37, .ref a38, .ref a39, .int 100, .int 0, .int 0, .int (-1)])), (a35, .inr (8, [.ref a40, .ref a41, .ref a42, .ref a43, .ref a44, .ref a45, .ref a46, .int 0])), (a36, .inl (cI, 7, .inl (fun _ => 0))), (a5, .inr (0, [.ref a33, .int 1, .int 1, .long 0, .int 1, .int 0, .long 0])), (a33, .inl (cJ, 256, .inr (.inl (vp_updL (fun _ => 0) 0 0))))] H := hP
          have hD : va_D A [(a0, .inr (9, [.ref a1, .ref a2, .ref a3, .int 0, .int 0, .ref a4, .ref a5, .ref a6, .ref a7])), (a1, .inr (7, [.int 100, .int 100, .int 0, .ref a8, .ref a9, .int 0, .ref a10, .ref a11, .ref a12, .ref a13, .ref a14, .ref a15, .ref a16, .ref a17, .ref a18])), (a9, .inl (cI, 2, .inl (upd (upd (fun _ => 0) 0 16) 1 16))), (a8, .inl (cI, 2, .inl (upd (upd (fun _ => 0) 0 16) 1 16))), (a17, .inr (8, [.ref a19, .ref a20, .ref a21, .ref a22, .ref a23, .ref a24, .ref a25, .int 0])), (a3, .inr (8, [.ref a26, .ref a27, .ref a28, .ref a29, .ref a30, .ref a31, .ref a32, .int 0])), (a4, .inr (4, [.ref a1, .ref a5, .ref a35, .ref a36, .ref a37, .ref a38, .ref a39, .int 100, .int 0, .int 0, .int (-1)])), (a35, .inr (8, [.ref a40, .ref a41, .ref a42, .ref a43, .ref a44, .ref a45, .ref a46, .int 0])), (a36, .inl (cI, 7, .inl (fun _ => 0))), (a5, .inr (0, [.ref a33, .int 1, .int 1, .long 0, .int 1, .int 0, .long 0])), (a33, .inl (cJ, 256, .inr (.inl (vp_updL (fun _ => 0) 0 0))))] := hD
          subst hp
          refine lv_iload_n hx hb dX9_fit_35 rfl (lv_at hl 2 rfl) ?_
          refine k_ci (wr := [(a0, .inr (9, [.ref a1, .ref a2, .ref a3, .int 0, .int 0, .ref a4, .ref a5, .ref a6, .ref a7])), (a9, .inl (cI, 2, .inl (upd (upd (fun _ => 0) 0 16) 1 16))), (a17, .inr (8, [.ref a19, .ref a20, .ref a21, .ref a22, .ref a23, .ref a24, .ref a25, .int 0])), (a3, .inr (8, [.ref a26, .ref a27, .ref a28, .ref a29, .ref a30, .ref a31, .ref a32, .int 0])), (a4, .inr (4, [.ref a1, .ref a5, .ref a35, .ref a36, .ref a37, .ref a38, .ref a39, .int 100, .int 0, .int 0, .int (-1)])), (a35, .inr (8, [.ref a40, .ref a41, .ref a42, .ref a43, .ref a44, .ref a45, .ref a46, .int 0])), (a36, .inl (cI, 7, .inl (fun _ => 0))), (a5, .inr (0, [.ref a33, .int 1, .int 1, .long 0, .int 1, .int 0, .long 0])), (a33, .inl (cJ, 256, .inr (.inl (vp_updL (fun _ => 0) 0 0))))]) (k_rV hC hN hK hP hD (c74_X7_partOf l G cI cJ cB cZ a1 a8 a9 a10 a11 a12 a13 a14 a15 a16 a17 a18) [1, 3] rfl (by decide) mi_X7_partOf in_X7_partOf se_X7_partOf wm_X9_136 7 1 rfl rfl rfl hl.1 rfl rfl (Nat.le_of_ble_eq_true rfl) ⟨(Nat.le_of_ble_eq_true rfl), (Nat.le_of_ble_eq_true rfl)⟩ dX9_fit_36 ⟨(Nat.le_of_ble_eq_true rfl), (Nat.le_of_ble_eq_true rfl)⟩) hP hD hS hA [1, 3] [0, 2, 4, 5, 6, 7, 8, 9, 10] rfl rfl (by decide) (by decide) (fun r12 u12 H locs hp hP hD hS => ?_)
          have hP : va_P G cl [(a0, .inr (9, [.ref a1, .ref a2, .ref a3, .int 0, .int 0, .ref a4, .ref a5, .ref a6, .ref a7])), (a9, .inl (cI, 2, .inl (upd (upd (fun _ => 0) 0 16) 1 16))), (a17, .inr (8, [.ref a19, .ref a20, .ref a21, .ref a22, .ref a23, .ref a24, .ref a25, .int 0])), (a3, .inr (8, [.ref a26, .ref a27, .ref a28, .ref a29, .ref a30, .ref a31, .ref a32, .int 0])), (a4, .inr (4, [.ref a1, .ref a5, .ref a35, .ref a36, .ref a37, .ref a38, .ref a39, .int 100, .int 0, .int 0, .int (-1)])), (a35, .inr (8, [.ref a40, .ref a41, .ref a42, .ref a43, .ref a44, .ref a45, .ref a46, .int 0])), (a36, .inl (cI, 7, .inl (fun _ => 0))), (a5, .inr (0, [.ref a33, .int 1, .int 1, .long 0, .int 1, .int 0, .long 0])), (a33, .inl (cJ, 256, .inr (.inl (vp_updL (fun _ => 0) 0 0)))), (a1, .inr (7, [.int 100, .int 100, .int 0, .ref a8, .ref a9, .int 0, .ref a10, .ref a11, .ref a12, .ref a13, .ref a14, .ref a15, .ref a16, .ref a17, .ref a18])), (a8, .inl (cI, 2, .inl (upd (upd (fun _ => 0) 0 16) 1 16)))] H := hP
          have hD : va_D A [(a0, .inr (9, [.ref a1, .ref a2, .ref a3, .int 0, .int 0, .ref a4, .ref a5, .ref a6, .ref a7])), (a9, .inl (cI, 2, .inl (upd (upd (fun _ => 0) 0 16) 1 16))), (a17, .inr (8, [.ref a19, .ref a20, .ref a21, .ref a22, .ref a23, .ref a24, .ref a25, .int 0])), (a3, .inr (8, [.ref a26, .ref a27, .ref a28, .ref a29, .ref a30, .ref a31, .ref a32, .int 0])), (a4, .inr (4, [.ref a1, .ref a5, .ref a35, .ref a36, .ref a37, .ref a38, .ref a39, .int 100, .int 0, .int 0, .int (-1)])), (a35, .inr (8, [.ref a40, .ref a41, .ref a42, .ref a43, .ref a44, .ref a45, .ref a46, .int 0])), (a36, .inl (cI, 7, .inl (fun _ => 0))), (a5, .inr (0, [.ref a33, .int 1, .int 1, .long 0, .int 1, .int 0, .long 0])), (a33, .inl (cJ, 256, .inr (.inl (vp_updL (fun _ => 0) 0 0)))), (a1, .inr (7, [.int 100, .int 100, .int 0, .ref a8, .ref a9, .int 0, .ref a10, .ref a11, .ref a12, .ref a13, .ref a14, .ref a15, .ref a16, .ref a17, .ref a18])), (a8, .inl (cI, 2, .inl (upd (upd (fun _ => 0) 0 16) 1 16)))] := hD
          subst hp
          exact k_iret hC hr hlk hK hP hD hS () [] rfl (by decide) (by first | decide | (unfold sp_fit; rw [if_neg (by omega)]) | (unfold sp_fit; rw [if_pos (by omega)])) (Nat.le_of_ble_eq_true rfl) (Nat.le_of_ble_eq_true rfl) dX9_fit_39
        · have d_10 : 1 ≤ x0.toInt := fa_nlt c_10
          refine lv_iconst (v := (-1)) hx hb dX9_fit_21 (by decide) ?_
          exact k_iret hC hr hlk hK hP hD hS () [] rfl (by decide) (by first | decide | (unfold sp_fit; rw [if_neg (by omega)]) | (unfold sp_fit; rw [if_pos (by omega)])) (Nat.le_of_ble_eq_true rfl) (Nat.le_of_ble_eq_true rfl) dX9_fit_22
    · skip
      refine lv_if_eq (tgt := 21) hx hb dX9_fit_5 (by decide) (fun c_ => absurd c_ (by decide +kernel)) (fun _ => ?_)
      refine lv_iload_n hx hb dX9_fit_8 rfl (lv_at hl 1 rfl) ?_
      refine lv_if_lt (tgt := 21) hx hb dX9_fit_9 (by decide) (fun c_13 => ?_) (fun c_13 => ?_)
      · have d_13 : x0.toInt < 0 := (fa_lt _ _).mp c_13
        refine lv_iconst (v := (-1)) hx hb dX9_fit_21 (by decide) ?_
        exact k_iret hC hr hlk hK hP hD hS () [] rfl (by decide) (by first | decide | (unfold sp_fit; rw [if_neg (by omega)]) | (unfold sp_fit; rw [if_pos (by omega)])) (Nat.le_of_ble_eq_true rfl) (Nat.le_of_ble_eq_true rfl) dX9_fit_22
      · have d_13 : 0 ≤ x0.toInt := fa_nlt c_13
        refine lv_iload_n hx hb dX9_fit_12 rfl (lv_at hl 1 rfl) ?_
        refine lv_aload_n hx hb dX9_fit_13 rfl (lv_at hl 0 rfl) ?_
        refine lv_iload_n hx hb dX9_fit_14 rfl (lv_at hl 3 rfl) ?_
        refine k_ci (wr := []) (k_rV hC hN hK hP hD (c65_X9_known l G cI cJ cB cZ a0 a1 a2 a3 a4 a5 a6 a7 a8 a9 a10 a11 a12 a13 a14 a15 a16 a17 a18 a19 a20 a21 a22 a23 a24 a25 a26 a27 a28 a29 a30 a31 a32 a33 a34 a35 a36 a37 a38 a39 a40 a41 a42 a43 a44 a45 a46 x2) [9, 10, 0, 1, 2, 3, 4, 5, 6, 7, 8] rfl (by decide) mi_X9_known in_X9_known se_X9_known wm_X9_125 9 9 rfl rfl rfl hl.1 rfl rfl (Nat.le_of_ble_eq_true rfl) ⟨(Nat.le_of_ble_eq_true rfl), (Nat.le_of_ble_eq_true rfl)⟩ dX9_fit_15 ⟨(Nat.le_of_ble_eq_true rfl), (Nat.le_of_ble_eq_true rfl)⟩) hP hD hS hA [9, 10, 0, 1, 2, 3, 4, 5, 6, 7, 8] [] rfl rfl (by decide) (by decide) (fun r14 u14 H locs hp hP hD hS => ?_)
        have hP : va_P G cl [(a0, .inr (9, [.ref a1, .ref a2, .ref a3, .int 0, .int 0, .ref a4, .ref a5, .ref a6, .ref a7])), (a1, .inr (7, [.int 100, .int 100, .int 0, .ref a8, .ref a9, .int 0, .ref a10, .ref a11, .ref a12, .ref a13, .ref a14, .ref a15, .ref a16, .ref a17, .ref a18])), (a9, .inl (cI, 2, .inl (upd (upd (fun _ => 0) 0 16) 1 16))), (a8, .inl (cI, 2, .inl (upd (upd (fun _ => 0) 0 16) 1 16))), (a17, .inr (8, [.ref a19, .ref a20, .ref a21, .ref a22, .ref a23, .ref a24, .ref a25, .int 0])), (a3, .inr (8, [.ref a26, .ref a27, .ref a28, .ref a29, .ref a30, .ref a31, .ref a32, .int 0])), (a5, .inr (0, [.ref a33, .int 1, .int 1, .long 0, .int 1, .int 0, .long 0])), (a4, .inr (4, [.ref a1, .ref a5, .ref a35, .ref a36, .ref a37, .ref a38, .ref a39, .int 100, .int 0, .int 0, .int (-1)])), (a35, .inr (8, [.ref a40, .ref a41, .ref a42, .ref a43, .ref a44, .ref a45, .ref a46, .int 0])), (a36, .inl (cI, 7, .inl (fun _ => 0))), (a33, .inl (cJ, 256, .inr (.inl (vp_updL (fun _ => 0) 0 0))))] H := hP
        have hD : va_D A [(a0, .inr (9, [.ref a1, .ref a2, .ref a3, .int 0, .int 0, .ref a4, .ref a5, .ref a6, .ref a7])), (a1, .inr (7, [.int 100, .int 100, .int 0, .ref a8, .ref a9, .int 0, .ref a10, .ref a11, .ref a12, .ref a13, .ref a14, .ref a15, .ref a16, .ref a17, .ref a18])), (a9, .inl (cI, 2, .inl (upd (upd (fun _ => 0) 0 16) 1 16))), (a8, .inl (cI, 2, .inl (upd (upd (fun _ => 0) 0 16) 1 16))), (a17, .inr (8, [.ref a19, .ref a20, .ref a21, .ref a22, .ref a23, .ref a24, .ref a25, .int 0])), (a3, .inr (8, [.ref a26, .ref a27, .ref a28, .ref a29, .ref a30, .ref a31, .ref a32, .int 0])), (a5, .inr (0, [.ref a33, .int 1, .int 1, .long 0, .int 1, .int 0, .long 0])), (a4, .inr (4, [.ref a1, .ref a5, .ref a35, .ref a36, .ref a37, .ref a38, .ref a39, .int 100, .int 0, .int 0, .int (-1)])), (a35, .inr (8, [.ref a40, .ref a41, .ref a42, .ref a43, .ref a44, .ref a45, .ref a46, .int 0])), (a36, .inl (cI, 7, .inl (fun _ => 0))), (a33, .inl (cJ, 256, .inr (.inl (vp_updL (fun _ => 0) 0 0))))] := hD
        subst hp
        refine lv_icmp_lt (tgt := 23) hx hb dX9_fit_18 (by decide) (fun c_15 => ?_) (fun c_15 => ?_)
        · have d_15 : x0.toInt < 1 := (fa_lt _ _).mp c_15
          obtain rfl : x0 = 0 := (fa_eq _ _).mpr (show x0.toInt = 0 by omega)
          refine lv_aload_n hx hb dX9_fit_23 rfl (lv_at hl 0 rfl) ?_
          refine k_get hC hK hP iX9 0 0 wf_X9_10 rfl (by decide) rfl rfl dX9_fit_24 ?_
          refine lv_aload_n hx hb dX9_fit_27 rfl (lv_at hl 0 rfl) ?_
          refine k_get hC hK hP iX9 0 6 wf_X9_50 rfl (by decide) rfl rfl dX9_fit_28 ?_
          refine lv_iload_n hx hb dX9_fit_31 rfl (lv_at hl 1 rfl) ?_
          refine k_cl (wr := [(a0, .inr (9, [.ref a1, .ref a2, .ref a3, .int 0, .int 0, .ref a4, .ref a5, .ref a6, .ref a7])), (a1, .inr (7, [.int 100, .int 100, .int 0, .ref a8, .ref a9, .int 0, .ref a10, .ref a11, .ref a12, .ref a13, .ref a14, .ref a15, .ref a16, .ref a17, .ref a18])), (a9, .inl (cI, 2, .inl (upd (upd (fun _ => 0) 0 16) 1 16))), (a8, .inl (cI, 2, .inl (upd (upd (fun _ => 0) 0 16) 1 16))), (a17, .inr (8, [.ref a19, .ref a20, .ref a21, .ref a22, .ref a23, .ref a24, .ref a25, .int 0])), (a3, .inr (8, [.ref a26, .ref a27, .ref a28, .ref a29, .ref a30, .ref a31, .ref a32, .int 0])), (a4, .inr (4, [.ref a1, .ref a5, .ref a35, .ref a36, .ref a37, .ref a38, .ref a39, .int 100, .int 0, .int 0, .int (-1)])), (a35, .inr (8, [.ref a40, .ref a41, .ref a42, .ref a43, .ref a44, .ref a45, .ref a46, .int 0])), (a36, .inl (cI, 7, .inl (fun _ => 0)))]) (k_rV hC hN hK hP hD (c68_X0_row l G cI cJ cB cZ a5 a33) [6, 10] rfl (by decide) mi_X0_row in_X0_row se_X0_row wm_X9_132 0 6 rfl rfl rfl hl.1 rfl rfl (Nat.le_of_ble_eq_true rfl) ⟨(Nat.le_of_ble_eq_true rfl), (Nat.le_of_ble_eq_true rfl)⟩ dX9_fit_32 ⟨(Nat.le_of_ble_eq_true rfl), (Nat.le_of_ble_eq_true rfl)⟩) hP hD hS hA [6, 10] [0, 1, 2, 3, 4, 5, 7, 8, 9] rfl rfl (by decide) (by decide) (fun r16 u16 H locs hp hP hD hS => ?_)
          have hP : va_P G cl [(a0, .inr (9, [.ref a1, .ref a2, .ref a3, .int 0, .int 0, .ref a4, .ref a5, .ref a6, .ref a7])), (a1, .inr (7, [.int 100, .int 100, .int 0, .ref a8, .ref a9, .int 0, .ref a10, .ref a11, .ref a12, .ref a13, .ref a14, .ref a15, .ref a16, .ref a17, .ref a18])), (a9, .inl (cI, 2, .inl (upd (upd (fun _ => 0) 0 16) 1 16))), (a8, .inl (cI, 2, .inl (upd (upd (fun _ => 0) 0 16) 1 16))), (a17, .inr (8, [.ref a19, .ref a20, .ref a21, .ref a22, .ref a23, .ref a24, .ref a25, .int 0])), (a3, .inr (8, [.ref a26, .ref a27, .ref a28, .ref a29, .ref a30, .ref a31, .ref a32, .int 0])), (a4, .inr (4, [.ref a1, .ref a5, .ref a35, .ref a36, .ref a37, .ref a38, .ref a39, .int 100, .int 0, .int 0, .int (-1)])), (a35, .inr (8, [.ref a40, .ref a41, .ref a42, .ref a43, .ref a44, .ref a45, .ref a46, .int 0])), (a36, .inl (cI, 7, .inl (fun _ => 0))), (a5, .inr (0, [.ref a33, .int 1, .int 1, .long 0, .int 1, .int 0, .long 0])), (a33, .inl (cJ, 256, .inr (.inl (vp_updL (fun _ => 0) 0 0))))] H := hP
          have hD : va_D A [(a0, .inr (9, [.ref a1, .ref a2, .ref a3, .int 0, .int 0, .ref a4, .ref a5, .ref a6, .ref a7])), (a1, .inr (7, [.int 100, .int 100, .int 0, .ref a8, .ref a9, .int 0, .ref a10, .ref a11, .ref a12, .ref a13, .ref a14, .ref a15, .ref a16, .ref a17, .ref a18])), (a9, .inl (cI, 2, .inl (upd (upd (fun _ => 0) 0 16) 1 16))), (a8, .inl (cI, 2, .inl (upd (upd (fun _ => 0) 0 16) 1 16))), (a17, .inr (8, [.ref a19, .ref a20, .ref a21, .ref a22, .ref a23, .ref a24, .ref a25, .int 0])), (a3, .inr (8, [.ref a26, .ref a27, .ref a28, .ref a29, .ref a30, .ref a31, .ref a32, .int 0])), (a4, .inr (4, [.ref a1, .ref a5, .ref a35, .ref a36, .ref a37, .ref a38, .ref a39, .int 100, .int 0, .int 0, .int (-1)])), (a35, .inr (8, [.ref a40, .ref a41, .ref a42, .ref a43, .ref a44, .ref a45, .ref a46, .int 0])), (a36, .inl (cI, 7, .inl (fun _ => 0))), (a5, .inr (0, [.ref a33, .int 1, .int 1, .long 0, .int 1, .int 0, .long 0])), (a33, .inl (cJ, 256, .inr (.inl (vp_updL (fun _ => 0) 0 0))))] := hD
          subst hp
          refine lv_iload_n hx hb dX9_fit_35 rfl (lv_at hl 2 rfl) ?_
          refine k_ci (wr := [(a0, .inr (9, [.ref a1, .ref a2, .ref a3, .int 0, .int 0, .ref a4, .ref a5, .ref a6, .ref a7])), (a9, .inl (cI, 2, .inl (upd (upd (fun _ => 0) 0 16) 1 16))), (a17, .inr (8, [.ref a19, .ref a20, .ref a21, .ref a22, .ref a23, .ref a24, .ref a25, .int 0])), (a3, .inr (8, [.ref a26, .ref a27, .ref a28, .ref a29, .ref a30, .ref a31, .ref a32, .int 0])), (a4, .inr (4, [.ref a1, .ref a5, .ref a35, .ref a36, .ref a37, .ref a38, .ref a39, .int 100, .int 0, .int 0, .int (-1)])), (a35, .inr (8, [.ref a40, .ref a41, .ref a42, .ref a43, .ref a44, .ref a45, .ref a46, .int 0])), (a36, .inl (cI, 7, .inl (fun _ => 0))), (a5, .inr (0, [.ref a33, .int 1, .int 1, .long 0, .int 1, .int 0, .long 0])), (a33, .inl (cJ, 256, .inr (.inl (vp_updL (fun _ => 0) 0 0))))]) (k_rV hC hN hK hP hD (c77_X7_partOf l G cI cJ cB cZ a1 a8 a9 a10 a11 a12 a13 a14 a15 a16 a17 a18) [1, 3] rfl (by decide) mi_X7_partOf in_X7_partOf se_X7_partOf wm_X9_136 7 1 rfl rfl rfl hl.1 rfl rfl (Nat.le_of_ble_eq_true rfl) ⟨(Nat.le_of_ble_eq_true rfl), (Nat.le_of_ble_eq_true rfl)⟩ dX9_fit_36 ⟨(Nat.le_of_ble_eq_true rfl), (Nat.le_of_ble_eq_true rfl)⟩) hP hD hS hA [1, 3] [0, 2, 4, 5, 6, 7, 8, 9, 10] rfl rfl (by decide) (by decide) (fun r17 u17 H locs hp hP hD hS => ?_)
          have hP : va_P G cl [(a0, .inr (9, [.ref a1, .ref a2, .ref a3, .int 0, .int 0, .ref a4, .ref a5, .ref a6, .ref a7])), (a9, .inl (cI, 2, .inl (upd (upd (fun _ => 0) 0 16) 1 16))), (a17, .inr (8, [.ref a19, .ref a20, .ref a21, .ref a22, .ref a23, .ref a24, .ref a25, .int 0])), (a3, .inr (8, [.ref a26, .ref a27, .ref a28, .ref a29, .ref a30, .ref a31, .ref a32, .int 0])), (a4, .inr (4, [.ref a1, .ref a5, .ref a35, .ref a36, .ref a37, .ref a38, .ref a39, .int 100, .int 0, .int 0, .int (-1)])), (a35, .inr (8, [.ref a40, .ref a41, .ref a42, .ref a43, .ref a44, .ref a45, .ref a46, .int 0])), (a36, .inl (cI, 7, .inl (fun _ => 0))), (a5, .inr (0, [.ref a33, .int 1, .int 1, .long 0, .int 1, .int 0, .long 0])), (a33, .inl (cJ, 256, .inr (.inl (vp_updL (fun _ => 0) 0 0)))), (a1, .inr (7, [.int 100, .int 100, .int 0, .ref a8, .ref a9, .int 0, .ref a10, .ref a11, .ref a12, .ref a13, .ref a14, .ref a15, .ref a16, .ref a17, .ref a18])), (a8, .inl (cI, 2, .inl (upd (upd (fun _ => 0) 0 16) 1 16)))] H := hP
          have hD : va_D A [(a0, .inr (9, [.ref a1, .ref a2, .ref a3, .int 0, .int 0, .ref a4, .ref a5, .ref a6, .ref a7])), (a9, .inl (cI, 2, .inl (upd (upd (fun _ => 0) 0 16) 1 16))), (a17, .inr (8, [.ref a19, .ref a20, .ref a21, .ref a22, .ref a23, .ref a24, .ref a25, .int 0])), (a3, .inr (8, [.ref a26, .ref a27, .ref a28, .ref a29, .ref a30, .ref a31, .ref a32, .int 0])), (a4, .inr (4, [.ref a1, .ref a5, .ref a35, .ref a36, .ref a37, .ref a38, .ref a39, .int 100, .int 0, .int 0, .int (-1)])), (a35, .inr (8, [.ref a40, .ref a41, .ref a42, .ref a43, .ref a44, .ref a45, .ref a46, .int 0])), (a36, .inl (cI, 7, .inl (fun _ => 0))), (a5, .inr (0, [.ref a33, .int 1, .int 1, .long 0, .int 1, .int 0, .long 0])), (a33, .inl (cJ, 256, .inr (.inl (vp_updL (fun _ => 0) 0 0)))), (a1, .inr (7, [.int 100, .int 100, .int 0, .ref a8, .ref a9, .int 0, .ref a10, .ref a11, .ref a12, .ref a13, .ref a14, .ref a15, .ref a16, .ref a17, .ref a18])), (a8, .inl (cI, 2, .inl (upd (upd (fun _ => 0) 0 16) 1 16)))] := hD
          subst hp
          exact k_iret hC hr hlk hK hP hD hS () [] rfl (by decide) (by first | decide | (unfold sp_fit; rw [if_neg (by omega)]) | (unfold sp_fit; rw [if_pos (by omega)])) (Nat.le_of_ble_eq_true rfl) (Nat.le_of_ble_eq_true rfl) dX9_fit_39
        · have d_15 : 1 ≤ x0.toInt := fa_nlt c_15
          refine lv_iconst (v := (-1)) hx hb dX9_fit_21 (by decide) ?_
          exact k_iret hC hr hlk hK hP hD hS () [] rfl (by decide) (by first | decide | (unfold sp_fit; rw [if_neg (by omega)]) | (unfold sp_fit; rw [if_pos (by omega)])) (Nat.le_of_ble_eq_true rfl) (Nat.le_of_ble_eq_true rfl) dX9_fit_22
  · skip
    refine lv_if_eq (tgt := 21) hx hb dX9_fit_5 (by decide) (fun _ => ?_) (fun c_ => absurd (by decide +kernel) c_)
    refine lv_iconst (v := (-1)) hx hb dX9_fit_21 (by decide) ?_
    exact k_iret hC hr hlk hK hP hD hS () [] rfl (by decide) (by first | decide | (unfold sp_fit; rw [if_neg (by omega)]) | (unfold sp_fit; rw [if_pos (by omega)])) (Nat.le_of_ble_eq_true rfl) (Nat.le_of_ble_eq_true rfl) dX9_fit_22
theorem dX1_begin_0 : decode cX1_begin 0 = .ok (.aload_n 0, 1) := by decide +kernel
theorem dX1_begin_1 : decode cX1_begin 1 = .ok (.iconst 0, 1) := by decide +kernel
theorem dX1_begin_2 : decode cX1_begin 2 = .ok (.putfield 9, 3) := by decide +kernel
set_option maxRecDepth 100000 in
theorem wf_X1_9 : Cond.fieldLink RX1 9 "StoneTrust$Range" "any" "Z" ∈ gw := gm (List.mem_of_getElem? (i := 523) (by decide +kernel)) rfl
theorem dX1_begin_5 : decode cX1_begin 5 = .ok (.return_, 1) := by decide +kernel
set_option maxHeartbeats 4000000 in
set_option maxRecDepth 100000 in
theorem c79_X1_begin (l : Launch) (G : va_G) (cI cJ cB cZ : ClassId) (a0 : Nat) : Con l G (TY cI cJ cB cZ) yX1_begin cX1_begin 1 none ({ frames := 0, cells := 0, slots := 0, locals := 0 } : Room) [.ref a0] [(a0, .inr (1, [.int 0, .int 0, .int 0, .int 0, .int 0]))] (QV G (TY cI cJ cB cZ) (fun u : Unit => True) (fun u : Unit => [(a0, .inr (1, [.int 0, .int 0, .int 0, .int 0, .int 0]))])) := by
  refine k_met (by decide) (Nat.le_of_ble_eq_true rfl) ?_
  intro p e s m below meth c A ls hC hr hlk hnm hN hK hA hP hD hS hl
  have hl : lv_has ls 1 [(0, .ref a0)] := hl
  obtain ⟨hx, hb, hml, hown, hts⟩ := id hC
  refine lv_aload_n hx hb dX1_begin_0 rfl (lv_at hl 0 rfl) ?_
  refine lv_iconst (v := 0) hx hb dX1_begin_1 (by decide) ?_
  refine k_put hC hK hP hD hS iX1 tyX1_ok nmX1 0 0 wf_X1_9 rfl (by decide) rfl rfl rfl rfl (Nat.le_of_ble_eq_true rfl) dX1_begin_2 (fun H locs hP hD hS => ?_)
  have hP : va_P G cl [(a0, .inr (1, [.int 0, .int 0, .int 0, .int 0, .int 0]))] H := hP
  have hD : va_D A [(a0, .inr (1, [.int 0, .int 0, .int 0, .int 0, .int 0]))] := hD
  exact k_vret hC hr hlk hK hP hD hS () [0] rfl (by decide) trivial (Nat.le_of_ble_eq_true rfl) (Nat.le_of_ble_eq_true rfl) dX1_begin_5
theorem dX1_take_0 : decode cX1_take 0 = .ok (.aload_n 0, 1) := by decide +kernel
theorem dX1_take_1 : decode cX1_take 1 = .ok (.getfield 9, 3) := by decide +kernel
theorem dX1_take_4 : decode cX1_take 4 = .ok (.ifCond .eq 11, 3) := by decide +kernel
theorem dX1_take_15 : decode cX1_take 15 = .ok (.aload_n 0, 1) := by decide +kernel
theorem dX1_take_16 : decode cX1_take 16 = .ok (.iload_n 1, 1) := by decide +kernel
theorem dX1_take_17 : decode cX1_take 17 = .ok (.putfield 15, 3) := by decide +kernel
set_option maxRecDepth 100000 in
theorem wf_X1_15 : Cond.fieldLink RX1 15 "StoneTrust$Range" "least" "I" ∈ gw := gm (List.mem_of_getElem? (i := 524) (by decide +kernel)) rfl
theorem dX1_take_20 : decode cX1_take 20 = .ok (.aload_n 0, 1) := by decide +kernel
theorem dX1_take_21 : decode cX1_take 21 = .ok (.getfield 9, 3) := by decide +kernel
theorem dX1_take_24 : decode cX1_take 24 = .ok (.ifCond .eq 11, 3) := by decide +kernel
theorem dX1_take_35 : decode cX1_take 35 = .ok (.aload_n 0, 1) := by decide +kernel
theorem dX1_take_36 : decode cX1_take 36 = .ok (.iload_n 1, 1) := by decide +kernel
theorem dX1_take_37 : decode cX1_take 37 = .ok (.putfield 19, 3) := by decide +kernel
set_option maxRecDepth 100000 in
theorem wf_X1_19 : Cond.fieldLink RX1 19 "StoneTrust$Range" "most" "I" ∈ gw := gm (List.mem_of_getElem? (i := 525) (by decide +kernel)) rfl
theorem dX1_take_40 : decode cX1_take 40 = .ok (.aload_n 0, 1) := by decide +kernel
theorem dX1_take_41 : decode cX1_take 41 = .ok (.iconst 1, 1) := by decide +kernel
theorem dX1_take_42 : decode cX1_take 42 = .ok (.putfield 9, 3) := by decide +kernel
theorem dX1_take_45 : decode cX1_take 45 = .ok (.return_, 1) := by decide +kernel
set_option maxHeartbeats 4000000 in
set_option maxRecDepth 100000 in
theorem c80_X1_take (l : Launch) (G : va_G) (cI cJ cB cZ : ClassId) (a0 : Nat) : Con l G (TY cI cJ cB cZ) yX1_take cX1_take 2 none ({ frames := 0, cells := 0, slots := 0, locals := 0 } : Room) [.ref a0, .int 100] [(a0, .inr (1, [.int 0, .int 0, .int 0, .int 0, .int 0]))] (QV G (TY cI cJ cB cZ) (fun u : Unit => True) (fun u : Unit => [(a0, .inr (1, [.int 1, .int 100, .int 100, .int 0, .int 0]))])) := by
  refine k_met (by decide) (Nat.le_of_ble_eq_true rfl) ?_
  intro p e s m below meth c A ls hC hr hlk hnm hN hK hA hP hD hS hl
  have hl : lv_has ls 2 [(0, .ref a0), (1, .int 100)] := hl
  obtain ⟨hx, hb, hml, hown, hts⟩ := id hC
  refine lv_aload_n hx hb dX1_take_0 rfl (lv_at hl 0 rfl) ?_
  refine k_get hC hK hP iX1 0 0 wf_X1_9 rfl (by decide) rfl rfl dX1_take_1 ?_
  refine lv_if_eq (tgt := 15) hx hb dX1_take_4 (by decide) (fun _ => ?_) (fun c_ => absurd (by decide +kernel) c_)
  refine lv_aload_n hx hb dX1_take_15 rfl (lv_at hl 0 rfl) ?_
  refine lv_iload_n hx hb dX1_take_16 rfl (lv_at hl 1 rfl) ?_
  refine k_put hC hK hP hD hS iX1 tyX1_ok nmX1 0 1 wf_X1_15 rfl (by decide) rfl rfl rfl rfl (Nat.le_of_ble_eq_true rfl) dX1_take_17 (fun H locs hP hD hS => ?_)
  have hP : va_P G cl [(a0, .inr (1, [.int 0, .int 100, .int 0, .int 0, .int 0]))] H := hP
  have hD : va_D A [(a0, .inr (1, [.int 0, .int 100, .int 0, .int 0, .int 0]))] := hD
  refine lv_aload_n hx hb dX1_take_20 rfl (lv_at hl 0 rfl) ?_
  refine k_get hC hK hP iX1 0 0 wf_X1_9 rfl (by decide) rfl rfl dX1_take_21 ?_
  refine lv_if_eq (tgt := 35) hx hb dX1_take_24 (by decide) (fun _ => ?_) (fun c_ => absurd (by decide +kernel) c_)
  refine lv_aload_n hx hb dX1_take_35 rfl (lv_at hl 0 rfl) ?_
  refine lv_iload_n hx hb dX1_take_36 rfl (lv_at hl 1 rfl) ?_
  refine k_put hC hK hP hD hS iX1 tyX1_ok nmX1 0 2 wf_X1_19 rfl (by decide) rfl rfl rfl rfl (Nat.le_of_ble_eq_true rfl) dX1_take_37 (fun H locs hP hD hS => ?_)
  have hP : va_P G cl [(a0, .inr (1, [.int 0, .int 100, .int 100, .int 0, .int 0]))] H := hP
  have hD : va_D A [(a0, .inr (1, [.int 0, .int 100, .int 100, .int 0, .int 0]))] := hD
  refine lv_aload_n hx hb dX1_take_40 rfl (lv_at hl 0 rfl) ?_
  refine lv_iconst (v := 1) hx hb dX1_take_41 (by decide) ?_
  refine k_put hC hK hP hD hS iX1 tyX1_ok nmX1 0 0 wf_X1_9 rfl (by decide) rfl rfl rfl rfl (Nat.le_of_ble_eq_true rfl) dX1_take_42 (fun H locs hP hD hS => ?_)
  have hP : va_P G cl [(a0, .inr (1, [.int 1, .int 100, .int 100, .int 0, .int 0]))] H := hP
  have hD : va_D A [(a0, .inr (1, [.int 1, .int 100, .int 100, .int 0, .int 0]))] := hD
  exact k_vret hC hr hlk hK hP hD hS () [0] rfl (by decide) trivial (Nat.le_of_ble_eq_true rfl) (Nat.le_of_ble_eq_true rfl) dX1_take_45
theorem dX1_edge_0 : decode cX1_edge 0 = .ok (.aload_n 0, 1) := by decide +kernel
theorem dX1_edge_1 : decode cX1_edge 1 = .ok (.getfield 9, 3) := by decide +kernel
theorem dX1_edge_4 : decode cX1_edge 4 = .ok (.ifCond .ne 5, 3) := by decide +kernel
theorem dX1_edge_9 : decode cX1_edge 9 = .ok (.iload_n 1, 1) := by decide +kernel
theorem dX1_edge_10 : decode cX1_edge 10 = .ok (.ifCond .eq 10, 3) := by decide +kernel
theorem dX1_edge_20 : decode cX1_edge 20 = .ok (.aload_n 0, 1) := by decide +kernel
theorem dX1_edge_21 : decode cX1_edge 21 = .ok (.getfield 15, 3) := by decide +kernel
theorem dX1_edge_24 : decode cX1_edge 24 = .ok (.ireturn, 1) := by decide +kernel
theorem dX1_edge_13 : decode cX1_edge 13 = .ok (.aload_n 0, 1) := by decide +kernel
theorem dX1_edge_14 : decode cX1_edge 14 = .ok (.getfield 19, 3) := by decide +kernel
theorem dX1_edge_17 : decode cX1_edge 17 = .ok (.goto 7, 3) := by decide +kernel
set_option maxHeartbeats 4000000 in
set_option maxRecDepth 100000 in
theorem c81_X1_edge (l : Launch) (G : va_G) (cI cJ cB cZ : ClassId) (a0 : Nat) (x0 : Int32) : Con l G (TY cI cJ cB cZ) yX1_edge cX1_edge 2 (some .int) ({ frames := 0, cells := 0, slots := 0, locals := 0 } : Room) [.ref a0, .int x0] [(a0, .inr (1, [.int 1, .int 100, .int 100, .int 0, .int 0]))] (QI G (TY cI cJ cB cZ) (fun (r : Int32) (u : Unit) => r = 100) (fun u : Unit => [(a0, .inr (1, [.int 1, .int 100, .int 100, .int 0, .int 0]))])) := by
  refine k_met (by decide) (Nat.le_of_ble_eq_true rfl) ?_
  intro p e s m below meth c A ls hC hr hlk hnm hN hK hA hP hD hS hl
  have hl : lv_has ls 2 [(0, .ref a0), (1, .int x0)] := hl
  obtain ⟨hx, hb, hml, hown, hts⟩ := id hC
  refine lv_aload_n hx hb dX1_edge_0 rfl (lv_at hl 0 rfl) ?_
  refine k_get hC hK hP iX1 0 0 wf_X1_9 rfl (by decide) rfl rfl dX1_edge_1 ?_
  refine lv_if_ne (tgt := 9) hx hb dX1_edge_4 (by decide) (fun _ => ?_) (fun c_ => absurd c_ (by decide +kernel))
  refine lv_iload_n hx hb dX1_edge_9 rfl (lv_at hl 1 rfl) ?_
  refine lv_if_eq (tgt := 20) hx hb dX1_edge_10 (by decide) (fun c_1 => ?_) (fun c_1 => ?_)
  · have d_1 : x0.toInt = 0 := (fa_eq _ _).mp c_1
    obtain rfl : x0 = 0 := (fa_eq _ _).mpr (show x0.toInt = 0 by omega)
    refine lv_aload_n hx hb dX1_edge_20 rfl (lv_at hl 0 rfl) ?_
    refine k_get hC hK hP iX1 0 1 wf_X1_15 rfl (by decide) rfl rfl dX1_edge_21 ?_
    exact k_iret hC hr hlk hK hP hD hS () [0] rfl (by decide) rfl (Nat.le_of_ble_eq_true rfl) (Nat.le_of_ble_eq_true rfl) dX1_edge_24
  · have d_1 : x0.toInt ≠ 0 := fa_ne c_1
    refine lv_aload_n hx hb dX1_edge_13 rfl (lv_at hl 0 rfl) ?_
    refine k_get hC hK hP iX1 0 2 wf_X1_19 rfl (by decide) rfl rfl dX1_edge_14 ?_
    refine lv_goto (tgt := 24) hx hb dX1_edge_17 (by decide) ?_
    exact k_iret hC hr hlk hK hP hD hS () [0] rfl (by decide) rfl (Nat.le_of_ble_eq_true rfl) (Nat.le_of_ble_eq_true rfl) dX1_edge_24
theorem dX9_edge_0 : decode cX9_edge 0 = .ok (.iload_n 1, 1) := by decide +kernel
theorem dX9_edge_1 : decode cX9_edge 1 = .ok (.ifCond .le 14, 3) := by decide +kernel
theorem dX9_edge_4 : decode cX9_edge 4 = .ok (.aload_n 0, 1) := by decide +kernel
theorem dX9_edge_5 : decode cX9_edge 5 = .ok (.getfield 61, 3) := by decide +kernel
theorem dX9_edge_8 : decode cX9_edge 8 = .ok (.iload_n 2, 1) := by decide +kernel
theorem dX9_edge_9 : decode cX9_edge 9 = .ok (.invokevirtual 222, 3) := by decide +kernel
set_option maxRecDepth 100000 in
theorem wm_X9_222 : Cond.methodLink RX9 222 yX1_edge ∈ gw := gm (List.mem_of_getElem? (i := 975) (by decide +kernel)) rfl
set_option maxRecDepth 100000 in
theorem mi_X1_edge : MI yX1_edge cX1_edge 2 (some .int) 1 := ⟨gm (List.mem_of_getElem? (i := 978) rfl) rfl, gm (List.mem_of_getElem? (i := 123) (by decide +kernel)) rfl, by decide, by decide, by decide +kernel⟩
set_option maxRecDepth 100000 in
theorem in_X1_edge : Cond.instanceMethod yX1_edge ∈ gw := gm (List.mem_of_getElem? (i := 976) (by decide +kernel)) rfl
set_option maxRecDepth 100000 in
theorem se_X1_edge : Cond.selects yX1_edge.cls yX1_edge yX1_edge ∈ gw := gm (List.mem_of_getElem? (i := 977) (by decide +kernel)) rfl
theorem dX9_edge_12 : decode cX9_edge 12 = .ok (.goto 7, 3) := by decide +kernel
theorem dX9_edge_19 : decode cX9_edge 19 = .ok (.ireturn, 1) := by decide +kernel
set_option maxHeartbeats 4000000 in
set_option maxRecDepth 100000 in
theorem c82_X9_edge (l : Launch) (G : va_G) (cI cJ cB cZ : ClassId) (a0 a1 a2 a3 a4 a5 a6 a7 : Nat) (x0 : Int32) : Con l G (TY cI cJ cB cZ) yX9_edge cX9_edge 3 (some .int) ({ frames := 1, cells := 0, slots := 0, locals := 21 } : Room) [.ref a0, .int 1, .int x0] [(a0, .inr (9, [.ref a1, .ref a2, .ref a3, .int 0, .int 0, .ref a4, .ref a5, .ref a6, .ref a7])), (a7, .inr (1, [.int 1, .int 100, .int 100, .int 0, .int 0]))] (QI G (TY cI cJ cB cZ) (fun (r : Int32) (u : Unit) => r = 100) (fun u : Unit => [(a0, .inr (9, [.ref a1, .ref a2, .ref a3, .int 0, .int 0, .ref a4, .ref a5, .ref a6, .ref a7])), (a7, .inr (1, [.int 1, .int 100, .int 100, .int 0, .int 0]))])) := by
  refine k_met (by decide) (Nat.le_of_ble_eq_true rfl) ?_
  intro p e s m below meth c A ls hC hr hlk hnm hN hK hA hP hD hS hl
  have hl : lv_has ls 3 [(0, .ref a0), (1, .int 1), (2, .int x0)] := hl
  obtain ⟨hx, hb, hml, hown, hts⟩ := id hC
  refine lv_iload_n hx hb dX9_edge_0 rfl (lv_at hl 1 rfl) ?_
  refine lv_if_le (tgt := 15) hx hb dX9_edge_1 (by decide) (fun c_ => absurd c_ (by decide +kernel)) (fun _ => ?_)
  refine lv_aload_n hx hb dX9_edge_4 rfl (lv_at hl 0 rfl) ?_
  refine k_get hC hK hP iX9 0 8 wf_X9_61 rfl (by decide) rfl rfl dX9_edge_5 ?_
  refine lv_iload_n hx hb dX9_edge_8 rfl (lv_at hl 2 rfl) ?_
  refine k_ci (wr := [(a0, .inr (9, [.ref a1, .ref a2, .ref a3, .int 0, .int 0, .ref a4, .ref a5, .ref a6, .ref a7]))]) (k_rV hC hN hK hP hD (c81_X1_edge l G cI cJ cB cZ a7 x0) [1] rfl (by decide) mi_X1_edge in_X1_edge se_X1_edge wm_X9_222 1 1 rfl rfl rfl hl.1 rfl rfl (Nat.le_of_ble_eq_true rfl) ⟨(Nat.le_of_ble_eq_true rfl), (Nat.le_of_ble_eq_true rfl)⟩ dX9_edge_9 ⟨(Nat.le_of_ble_eq_true rfl), (Nat.le_of_ble_eq_true rfl)⟩) hP hD hS hA [1] [0] rfl rfl (by decide) (by decide) (fun r1 u1 H locs hp hP hD hS => ?_)
  have hP : va_P G cl [(a0, .inr (9, [.ref a1, .ref a2, .ref a3, .int 0, .int 0, .ref a4, .ref a5, .ref a6, .ref a7])), (a7, .inr (1, [.int 1, .int 100, .int 100, .int 0, .int 0]))] H := hP
  have hD : va_D A [(a0, .inr (9, [.ref a1, .ref a2, .ref a3, .int 0, .int 0, .ref a4, .ref a5, .ref a6, .ref a7])), (a7, .inr (1, [.int 1, .int 100, .int 100, .int 0, .int 0]))] := hD
  subst hp
  refine lv_goto (tgt := 19) hx hb dX9_edge_12 (by decide) ?_
  exact k_iret hC hr hlk hK hP hD hS () [0, 1] rfl (by decide) rfl (Nat.le_of_ble_eq_true rfl) (Nat.le_of_ble_eq_true rfl) dX9_edge_19
set_option maxHeartbeats 4000000 in
set_option maxRecDepth 100000 in
theorem c83_X1_take (l : Launch) (G : va_G) (cI cJ cB cZ : ClassId) (a0 : Nat) : Con l G (TY cI cJ cB cZ) yX1_take cX1_take 2 none ({ frames := 0, cells := 0, slots := 0, locals := 0 } : Room) [.ref a0, .int 16] [(a0, .inr (1, [.int 0, .int 0, .int 0, .int 0, .int 0]))] (QV G (TY cI cJ cB cZ) (fun u : Unit => True) (fun u : Unit => [(a0, .inr (1, [.int 1, .int 16, .int 16, .int 0, .int 0]))])) := by
  refine k_met (by decide) (Nat.le_of_ble_eq_true rfl) ?_
  intro p e s m below meth c A ls hC hr hlk hnm hN hK hA hP hD hS hl
  have hl : lv_has ls 2 [(0, .ref a0), (1, .int 16)] := hl
  obtain ⟨hx, hb, hml, hown, hts⟩ := id hC
  refine lv_aload_n hx hb dX1_take_0 rfl (lv_at hl 0 rfl) ?_
  refine k_get hC hK hP iX1 0 0 wf_X1_9 rfl (by decide) rfl rfl dX1_take_1 ?_
  refine lv_if_eq (tgt := 15) hx hb dX1_take_4 (by decide) (fun _ => ?_) (fun c_ => absurd (by decide +kernel) c_)
  refine lv_aload_n hx hb dX1_take_15 rfl (lv_at hl 0 rfl) ?_
  refine lv_iload_n hx hb dX1_take_16 rfl (lv_at hl 1 rfl) ?_
  refine k_put hC hK hP hD hS iX1 tyX1_ok nmX1 0 1 wf_X1_15 rfl (by decide) rfl rfl rfl rfl (Nat.le_of_ble_eq_true rfl) dX1_take_17 (fun H locs hP hD hS => ?_)
  have hP : va_P G cl [(a0, .inr (1, [.int 0, .int 16, .int 0, .int 0, .int 0]))] H := hP
  have hD : va_D A [(a0, .inr (1, [.int 0, .int 16, .int 0, .int 0, .int 0]))] := hD
  refine lv_aload_n hx hb dX1_take_20 rfl (lv_at hl 0 rfl) ?_
  refine k_get hC hK hP iX1 0 0 wf_X1_9 rfl (by decide) rfl rfl dX1_take_21 ?_
  refine lv_if_eq (tgt := 35) hx hb dX1_take_24 (by decide) (fun _ => ?_) (fun c_ => absurd (by decide +kernel) c_)
  refine lv_aload_n hx hb dX1_take_35 rfl (lv_at hl 0 rfl) ?_
  refine lv_iload_n hx hb dX1_take_36 rfl (lv_at hl 1 rfl) ?_
  refine k_put hC hK hP hD hS iX1 tyX1_ok nmX1 0 2 wf_X1_19 rfl (by decide) rfl rfl rfl rfl (Nat.le_of_ble_eq_true rfl) dX1_take_37 (fun H locs hP hD hS => ?_)
  have hP : va_P G cl [(a0, .inr (1, [.int 0, .int 16, .int 16, .int 0, .int 0]))] H := hP
  have hD : va_D A [(a0, .inr (1, [.int 0, .int 16, .int 16, .int 0, .int 0]))] := hD
  refine lv_aload_n hx hb dX1_take_40 rfl (lv_at hl 0 rfl) ?_
  refine lv_iconst (v := 1) hx hb dX1_take_41 (by decide) ?_
  refine k_put hC hK hP hD hS iX1 tyX1_ok nmX1 0 0 wf_X1_9 rfl (by decide) rfl rfl rfl rfl (Nat.le_of_ble_eq_true rfl) dX1_take_42 (fun H locs hP hD hS => ?_)
  have hP : va_P G cl [(a0, .inr (1, [.int 1, .int 16, .int 16, .int 0, .int 0]))] H := hP
  have hD : va_D A [(a0, .inr (1, [.int 1, .int 16, .int 16, .int 0, .int 0]))] := hD
  exact k_vret hC hr hlk hK hP hD hS () [0] rfl (by decide) trivial (Nat.le_of_ble_eq_true rfl) (Nat.le_of_ble_eq_true rfl) dX1_take_45
set_option maxHeartbeats 4000000 in
set_option maxRecDepth 100000 in
theorem c84_X1_edge (l : Launch) (G : va_G) (cI cJ cB cZ : ClassId) (a0 : Nat) (x0 : Int32) : Con l G (TY cI cJ cB cZ) yX1_edge cX1_edge 2 (some .int) ({ frames := 0, cells := 0, slots := 0, locals := 0 } : Room) [.ref a0, .int x0] [(a0, .inr (1, [.int 1, .int 16, .int 16, .int 0, .int 0]))] (QI G (TY cI cJ cB cZ) (fun (r : Int32) (u : Unit) => r = 16) (fun u : Unit => [(a0, .inr (1, [.int 1, .int 16, .int 16, .int 0, .int 0]))])) := by
  refine k_met (by decide) (Nat.le_of_ble_eq_true rfl) ?_
  intro p e s m below meth c A ls hC hr hlk hnm hN hK hA hP hD hS hl
  have hl : lv_has ls 2 [(0, .ref a0), (1, .int x0)] := hl
  obtain ⟨hx, hb, hml, hown, hts⟩ := id hC
  refine lv_aload_n hx hb dX1_edge_0 rfl (lv_at hl 0 rfl) ?_
  refine k_get hC hK hP iX1 0 0 wf_X1_9 rfl (by decide) rfl rfl dX1_edge_1 ?_
  refine lv_if_ne (tgt := 9) hx hb dX1_edge_4 (by decide) (fun _ => ?_) (fun c_ => absurd c_ (by decide +kernel))
  refine lv_iload_n hx hb dX1_edge_9 rfl (lv_at hl 1 rfl) ?_
  refine lv_if_eq (tgt := 20) hx hb dX1_edge_10 (by decide) (fun c_1 => ?_) (fun c_1 => ?_)
  · have d_1 : x0.toInt = 0 := (fa_eq _ _).mp c_1
    obtain rfl : x0 = 0 := (fa_eq _ _).mpr (show x0.toInt = 0 by omega)
    refine lv_aload_n hx hb dX1_edge_20 rfl (lv_at hl 0 rfl) ?_
    refine k_get hC hK hP iX1 0 1 wf_X1_15 rfl (by decide) rfl rfl dX1_edge_21 ?_
    exact k_iret hC hr hlk hK hP hD hS () [0] rfl (by decide) rfl (Nat.le_of_ble_eq_true rfl) (Nat.le_of_ble_eq_true rfl) dX1_edge_24
  · have d_1 : x0.toInt ≠ 0 := fa_ne c_1
    refine lv_aload_n hx hb dX1_edge_13 rfl (lv_at hl 0 rfl) ?_
    refine k_get hC hK hP iX1 0 2 wf_X1_19 rfl (by decide) rfl rfl dX1_edge_14 ?_
    refine lv_goto (tgt := 24) hx hb dX1_edge_17 (by decide) ?_
    exact k_iret hC hr hlk hK hP hD hS () [0] rfl (by decide) rfl (Nat.le_of_ble_eq_true rfl) (Nat.le_of_ble_eq_true rfl) dX1_edge_24
set_option maxHeartbeats 4000000 in
set_option maxRecDepth 100000 in
theorem c85_X9_edge (l : Launch) (G : va_G) (cI cJ cB cZ : ClassId) (a0 a1 a2 a3 a4 a5 a6 a7 : Nat) (x0 : Int32) : Con l G (TY cI cJ cB cZ) yX9_edge cX9_edge 3 (some .int) ({ frames := 1, cells := 0, slots := 0, locals := 21 } : Room) [.ref a0, .int 1, .int x0] [(a0, .inr (9, [.ref a1, .ref a2, .ref a3, .int 0, .int 0, .ref a4, .ref a5, .ref a6, .ref a7])), (a7, .inr (1, [.int 1, .int 16, .int 16, .int 0, .int 0]))] (QI G (TY cI cJ cB cZ) (fun (r : Int32) (u : Unit) => r = 16) (fun u : Unit => [(a0, .inr (9, [.ref a1, .ref a2, .ref a3, .int 0, .int 0, .ref a4, .ref a5, .ref a6, .ref a7])), (a7, .inr (1, [.int 1, .int 16, .int 16, .int 0, .int 0]))])) := by
  refine k_met (by decide) (Nat.le_of_ble_eq_true rfl) ?_
  intro p e s m below meth c A ls hC hr hlk hnm hN hK hA hP hD hS hl
  have hl : lv_has ls 3 [(0, .ref a0), (1, .int 1), (2, .int x0)] := hl
  obtain ⟨hx, hb, hml, hown, hts⟩ := id hC
  refine lv_iload_n hx hb dX9_edge_0 rfl (lv_at hl 1 rfl) ?_
  refine lv_if_le (tgt := 15) hx hb dX9_edge_1 (by decide) (fun c_ => absurd c_ (by decide +kernel)) (fun _ => ?_)
  refine lv_aload_n hx hb dX9_edge_4 rfl (lv_at hl 0 rfl) ?_
  refine k_get hC hK hP iX9 0 8 wf_X9_61 rfl (by decide) rfl rfl dX9_edge_5 ?_
  refine lv_iload_n hx hb dX9_edge_8 rfl (lv_at hl 2 rfl) ?_
  refine k_ci (wr := [(a0, .inr (9, [.ref a1, .ref a2, .ref a3, .int 0, .int 0, .ref a4, .ref a5, .ref a6, .ref a7]))]) (k_rV hC hN hK hP hD (c84_X1_edge l G cI cJ cB cZ a7 x0) [1] rfl (by decide) mi_X1_edge in_X1_edge se_X1_edge wm_X9_222 1 1 rfl rfl rfl hl.1 rfl rfl (Nat.le_of_ble_eq_true rfl) ⟨(Nat.le_of_ble_eq_true rfl), (Nat.le_of_ble_eq_true rfl)⟩ dX9_edge_9 ⟨(Nat.le_of_ble_eq_true rfl), (Nat.le_of_ble_eq_true rfl)⟩) hP hD hS hA [1] [0] rfl rfl (by decide) (by decide) (fun r1 u1 H locs hp hP hD hS => ?_)
  have hP : va_P G cl [(a0, .inr (9, [.ref a1, .ref a2, .ref a3, .int 0, .int 0, .ref a4, .ref a5, .ref a6, .ref a7])), (a7, .inr (1, [.int 1, .int 16, .int 16, .int 0, .int 0]))] H := hP
  have hD : va_D A [(a0, .inr (9, [.ref a1, .ref a2, .ref a3, .int 0, .int 0, .ref a4, .ref a5, .ref a6, .ref a7])), (a7, .inr (1, [.int 1, .int 16, .int 16, .int 0, .int 0]))] := hD
  subst hp
  refine lv_goto (tgt := 19) hx hb dX9_edge_12 (by decide) ?_
  exact k_iret hC hr hlk hK hP hD hS () [0, 1] rfl (by decide) rfl (Nat.le_of_ble_eq_true rfl) (Nat.le_of_ble_eq_true rfl) dX9_edge_19
theorem dX9_span_0 : decode cX9_span 0 = .ok (.aload_n 0, 1) := by decide +kernel
theorem dX9_span_1 : decode cX9_span 1 = .ok (.iload_n 1, 1) := by decide +kernel
theorem dX9_span_2 : decode cX9_span 2 = .ok (.invokevirtual 129, 3) := by decide +kernel
theorem dX9_span_5 : decode cX9_span 5 = .ok (.ifCond .ne 5, 3) := by decide +kernel
theorem dX9_span_10 : decode cX9_span 10 = .ok (.aload_n 0, 1) := by decide +kernel
theorem dX9_span_11 : decode cX9_span 11 = .ok (.iload_n 3, 1) := by decide +kernel
theorem dX9_span_12 : decode cX9_span 12 = .ok (.invokevirtual 125, 3) := by decide +kernel
theorem dX9_span_15 : decode cX9_span 15 = .ok (.istore 4, 2) := by decide +kernel
theorem dX9_span_17 : decode cX9_span 17 = .ok (.aload_n 0, 1) := by decide +kernel
theorem dX9_span_18 : decode cX9_span 18 = .ok (.getfield 61, 3) := by decide +kernel
theorem dX9_span_21 : decode cX9_span 21 = .ok (.invokevirtual 140, 3) := by decide +kernel
set_option maxRecDepth 100000 in
theorem wm_X9_140 : Cond.methodLink RX9 140 yX1_begin ∈ gw := gm (List.mem_of_getElem? (i := 963) (by decide +kernel)) rfl
set_option maxRecDepth 100000 in
theorem mi_X1_begin : MI yX1_begin cX1_begin 1 none 0 := ⟨gm (List.mem_of_getElem? (i := 966) rfl) rfl, gm (List.mem_of_getElem? (i := 123) (by decide +kernel)) rfl, by decide, by decide, by decide +kernel⟩
set_option maxRecDepth 100000 in
theorem in_X1_begin : Cond.instanceMethod yX1_begin ∈ gw := gm (List.mem_of_getElem? (i := 964) (by decide +kernel)) rfl
set_option maxRecDepth 100000 in
theorem se_X1_begin : Cond.selects yX1_begin.cls yX1_begin yX1_begin ∈ gw := gm (List.mem_of_getElem? (i := 965) (by decide +kernel)) rfl
theorem dX9_span_24 : decode cX9_span 24 = .ok (.iconst 0, 1) := by decide +kernel
theorem dX9_span_25 : decode cX9_span 25 = .ok (.istore 5, 2) := by decide +kernel
theorem dX9_span_27 : decode cX9_span 27 = .ok (.iload 5, 2) := by decide +kernel
theorem dX9_span_29 : decode cX9_span 29 = .ok (.iload 4, 2) := by decide +kernel
theorem dX9_span_31 : decode cX9_span 31 = .ok (.if_icmp .ge 33, 3) := by decide +kernel
theorem dX9_span_34 : decode cX9_span 34 = .ok (.aload_n 0, 1) := by decide +kernel
theorem dX9_span_35 : decode cX9_span 35 = .ok (.getfield 61, 3) := by decide +kernel
theorem dX9_span_38 : decode cX9_span 38 = .ok (.aload_n 0, 1) := by decide +kernel
theorem dX9_span_39 : decode cX9_span 39 = .ok (.getfield 10, 3) := by decide +kernel
theorem dX9_span_42 : decode cX9_span 42 = .ok (.aload_n 0, 1) := by decide +kernel
theorem dX9_span_43 : decode cX9_span 43 = .ok (.getfield 50, 3) := by decide +kernel
theorem dX9_span_46 : decode cX9_span 46 = .ok (.iload 5, 2) := by decide +kernel
theorem dX9_span_48 : decode cX9_span 48 = .ok (.invokevirtual 132, 3) := by decide +kernel
theorem dX9_span_51 : decode cX9_span 51 = .ok (.iload_n 1, 1) := by decide +kernel
theorem dX9_span_52 : decode cX9_span 52 = .ok (.invokevirtual 136, 3) := by decide +kernel
theorem dX9_span_55 : decode cX9_span 55 = .ok (.invokevirtual 143, 3) := by decide +kernel
set_option maxRecDepth 100000 in
theorem wm_X9_143 : Cond.methodLink RX9 143 yX1_take ∈ gw := gm (List.mem_of_getElem? (i := 967) (by decide +kernel)) rfl
set_option maxRecDepth 100000 in
theorem mi_X1_take : MI yX1_take cX1_take 2 none 1 := ⟨gm (List.mem_of_getElem? (i := 970) rfl) rfl, gm (List.mem_of_getElem? (i := 123) (by decide +kernel)) rfl, by decide, by decide, by decide +kernel⟩
set_option maxRecDepth 100000 in
theorem in_X1_take : Cond.instanceMethod yX1_take ∈ gw := gm (List.mem_of_getElem? (i := 968) (by decide +kernel)) rfl
set_option maxRecDepth 100000 in
theorem se_X1_take : Cond.selects yX1_take.cls yX1_take yX1_take ∈ gw := gm (List.mem_of_getElem? (i := 969) (by decide +kernel)) rfl
theorem dX9_span_58 : decode cX9_span 58 = .ok (.iinc 5 1, 3) := by decide +kernel
theorem dX9_span_61 : decode cX9_span 61 = .ok (.goto (-34), 3) := by decide +kernel
theorem dX9_span_64 : decode cX9_span 64 = .ok (.aload_n 0, 1) := by decide +kernel
theorem dX9_span_65 : decode cX9_span 65 = .ok (.iload 4, 2) := by decide +kernel
theorem dX9_span_67 : decode cX9_span 67 = .ok (.iload_n 2, 1) := by decide +kernel
theorem dX9_span_68 : decode cX9_span 68 = .ok (.invokevirtual 146, 3) := by decide +kernel
set_option maxRecDepth 100000 in
theorem wm_X9_146 : Cond.methodLink RX9 146 yX9_edge ∈ gw := gm (List.mem_of_getElem? (i := 971) (by decide +kernel)) rfl
set_option maxRecDepth 100000 in
theorem mi_X9_edge : MI yX9_edge cX9_edge 3 (some .int) 2 := ⟨gm (List.mem_of_getElem? (i := 974) rfl) rfl, gm (List.mem_of_getElem? (i := 112) (by decide +kernel)) rfl, by decide, by decide, by decide +kernel⟩
set_option maxRecDepth 100000 in
theorem in_X9_edge : Cond.instanceMethod yX9_edge ∈ gw := gm (List.mem_of_getElem? (i := 973) (by decide +kernel)) rfl
set_option maxRecDepth 100000 in
theorem se_X9_edge : Cond.selects yX9_edge.cls yX9_edge yX9_edge ∈ gw := gm (List.mem_of_getElem? (i := 36) (by decide +kernel)) rfl
theorem dX9_span_71 : decode cX9_span 71 = .ok (.ireturn, 1) := by decide +kernel
theorem dX9_span_8 : decode cX9_span 8 = .ok (.iconst (-1), 1) := by decide +kernel
theorem dX9_span_9 : decode cX9_span 9 = .ok (.ireturn, 1) := by decide +kernel
set_option maxHeartbeats 4000000 in
set_option maxRecDepth 100000 in
theorem c86_X9_span (l : Launch) (G : va_G) (cI cJ cB cZ : ClassId) (a0 a1 a2 a3 a4 a5 a6 a7 a8 a9 a10 a11 a12 a13 a14 a15 a16 a17 a18 a19 a20 a21 a22 a23 a24 a25 a26 a27 a28 a29 a30 a31 a32 a33 a34 a35 a36 a37 a38 a39 a40 a41 a42 a43 a44 a45 a46 : Nat) (x0 : Int32) (x1 : Int32) (x2 : Int32) : Con l G (TY cI cJ cB cZ) yX9_span cX9_span 6 (some .int) ({ frames := 4, cells := 0, slots := 0, locals := 94 } : Room) [.ref a0, .int x0, .int x1, .int x2] [(a0, .inr (9, [.ref a1, .ref a2, .ref a3, .int 0, .int 0, .ref a4, .ref a5, .ref a6, .ref a7])), (a1, .inr (7, [.int 100, .int 100, .int 0, .ref a8, .ref a9, .int 0, .ref a10, .ref a11, .ref a12, .ref a13, .ref a14, .ref a15, .ref a16, .ref a17, .ref a18])), (a9, .inl (cI, 2, .inl (upd (upd (fun _ => 0) 0 16) 1 16))), (a8, .inl (cI, 2, .inl (upd (upd (fun _ => 0) 0 16) 1 16))), (a17, .inr (8, [.ref a19, .ref a20, .ref a21, .ref a22, .ref a23, .ref a24, .ref a25, .int 0])), (a3, .inr (8, [.ref a26, .ref a27, .ref a28, .ref a29, .ref a30, .ref a31, .ref a32, .int 0])), (a5, .inr (0, [.ref a33, .int 0, .int 0, .long 0, .int 0, .int 0, .long 0])), (a4, .inr (4, [.ref a34, .ref a5, .ref a35, .ref a36, .ref a37, .ref a38, .ref a39, .int 100, .int 0, .int 0, .int (-1)])), (a35, .inr (8, [.ref a40, .ref a41, .ref a42, .ref a43, .ref a44, .ref a45, .ref a46, .int 0])), (a36, .inl (cI, 7, .inl (fun _ => 0))), (a33, .inl (cJ, 256, .inr (.inl (fun _ => 0)))), (a7, .inr (1, [.int 0, .int 0, .int 0, .int 0, .int 0]))] (QI G (TY cI cJ cB cZ) (fun (r : Int32) (u : Unit) => r = sp_span x0) (fun u : Unit => [])) := by
  refine k_met (by decide) (Nat.le_of_ble_eq_true rfl) ?_
  intro p e s m below meth c A ls hC hr hlk hnm hN hK hA hP hD hS hl
  have hl : lv_has ls 6 [(0, .ref a0), (1, .int x0), (2, .int x1), (3, .int x2)] := hl
  obtain ⟨hx, hb, hml, hown, hts⟩ := id hC
  refine lv_aload_n hx hb dX9_span_0 rfl (lv_at hl 0 rfl) ?_
  refine lv_iload_n hx hb dX9_span_1 rfl (lv_at hl 1 rfl) ?_
  refine k_ci (wr := [(a9, .inl (cI, 2, .inl (upd (upd (fun _ => 0) 0 16) 1 16))), (a8, .inl (cI, 2, .inl (upd (upd (fun _ => 0) 0 16) 1 16))), (a17, .inr (8, [.ref a19, .ref a20, .ref a21, .ref a22, .ref a23, .ref a24, .ref a25, .int 0])), (a3, .inr (8, [.ref a26, .ref a27, .ref a28, .ref a29, .ref a30, .ref a31, .ref a32, .int 0])), (a5, .inr (0, [.ref a33, .int 0, .int 0, .long 0, .int 0, .int 0, .long 0])), (a4, .inr (4, [.ref a34, .ref a5, .ref a35, .ref a36, .ref a37, .ref a38, .ref a39, .int 100, .int 0, .int 0, .int (-1)])), (a35, .inr (8, [.ref a40, .ref a41, .ref a42, .ref a43, .ref a44, .ref a45, .ref a46, .int 0])), (a36, .inl (cI, 7, .inl (fun _ => 0))), (a33, .inl (cJ, 256, .inr (.inl (fun _ => 0)))), (a7, .inr (1, [.int 0, .int 0, .int 0, .int 0, .int 0]))]) (k_rV hC hN hK hP hD (c67_X9_isPart l G cI cJ cB cZ a0 a1 a2 a3 a4 a5 a6 a7 a8 a9 a10 a11 a12 a13 a14 a15 a16 a17 a18 x0) [0, 1] rfl (by decide) mi_X9_isPart in_X9_isPart se_X9_isPart wm_X9_129 9 0 rfl rfl rfl hl.1 rfl rfl (Nat.le_of_ble_eq_true rfl) ⟨(Nat.le_of_ble_eq_true rfl), (Nat.le_of_ble_eq_true rfl)⟩ dX9_span_2 ⟨(Nat.le_of_ble_eq_true rfl), (Nat.le_of_ble_eq_true rfl)⟩) hP hD hS hA [0, 1] [2, 3, 4, 5, 6, 7, 8, 9, 10, 11] rfl rfl (by decide) (by decide) (fun r1 u1 H locs hp hP hD hS => ?_)
  have hP : va_P G cl [(a9, .inl (cI, 2, .inl (upd (upd (fun _ => 0) 0 16) 1 16))), (a8, .inl (cI, 2, .inl (upd (upd (fun _ => 0) 0 16) 1 16))), (a17, .inr (8, [.ref a19, .ref a20, .ref a21, .ref a22, .ref a23, .ref a24, .ref a25, .int 0])), (a3, .inr (8, [.ref a26, .ref a27, .ref a28, .ref a29, .ref a30, .ref a31, .ref a32, .int 0])), (a5, .inr (0, [.ref a33, .int 0, .int 0, .long 0, .int 0, .int 0, .long 0])), (a4, .inr (4, [.ref a34, .ref a5, .ref a35, .ref a36, .ref a37, .ref a38, .ref a39, .int 100, .int 0, .int 0, .int (-1)])), (a35, .inr (8, [.ref a40, .ref a41, .ref a42, .ref a43, .ref a44, .ref a45, .ref a46, .int 0])), (a36, .inl (cI, 7, .inl (fun _ => 0))), (a33, .inl (cJ, 256, .inr (.inl (fun _ => 0)))), (a7, .inr (1, [.int 0, .int 0, .int 0, .int 0, .int 0])), (a0, .inr (9, [.ref a1, .ref a2, .ref a3, .int 0, .int 0, .ref a4, .ref a5, .ref a6, .ref a7])), (a1, .inr (7, [.int 100, .int 100, .int 0, .ref a8, .ref a9, .int 0, .ref a10, .ref a11, .ref a12, .ref a13, .ref a14, .ref a15, .ref a16, .ref a17, .ref a18]))] H := hP
  have hD : va_D A [(a9, .inl (cI, 2, .inl (upd (upd (fun _ => 0) 0 16) 1 16))), (a8, .inl (cI, 2, .inl (upd (upd (fun _ => 0) 0 16) 1 16))), (a17, .inr (8, [.ref a19, .ref a20, .ref a21, .ref a22, .ref a23, .ref a24, .ref a25, .int 0])), (a3, .inr (8, [.ref a26, .ref a27, .ref a28, .ref a29, .ref a30, .ref a31, .ref a32, .int 0])), (a5, .inr (0, [.ref a33, .int 0, .int 0, .long 0, .int 0, .int 0, .long 0])), (a4, .inr (4, [.ref a34, .ref a5, .ref a35, .ref a36, .ref a37, .ref a38, .ref a39, .int 100, .int 0, .int 0, .int (-1)])), (a35, .inr (8, [.ref a40, .ref a41, .ref a42, .ref a43, .ref a44, .ref a45, .ref a46, .int 0])), (a36, .inl (cI, 7, .inl (fun _ => 0))), (a33, .inl (cJ, 256, .inr (.inl (fun _ => 0)))), (a7, .inr (1, [.int 0, .int 0, .int 0, .int 0, .int 0])), (a0, .inr (9, [.ref a1, .ref a2, .ref a3, .int 0, .int 0, .ref a4, .ref a5, .ref a6, .ref a7])), (a1, .inr (7, [.int 100, .int 100, .int 0, .ref a8, .ref a9, .int 0, .ref a10, .ref a11, .ref a12, .ref a13, .ref a14, .ref a15, .ref a16, .ref a17, .ref a18]))] := hD
  rcases hp with ⟨rfl, hq1⟩ | ⟨rfl, hq1⟩
  · skip
    have e_2 : x0.toInt = 0 ∨ x0.toInt = 1 ∨ x0.toInt = 2 := by omega
    obtain rfl | rfl | rfl : x0 = 0 ∨ x0 = 1 ∨ x0 = 2 := by simp only [fa_eq]; exact e_2
    · skip
      refine lv_if_ne (tgt := 10) hx hb dX9_span_5 (by decide) (fun _ => ?_) (fun c_ => absurd c_ (by decide +kernel))
      refine lv_aload_n hx hb dX9_span_10 rfl (lv_at hl 0 rfl) ?_
      refine lv_iload_n hx hb dX9_span_11 rfl (lv_at hl 3 rfl) ?_
      refine k_ci (wr := [(a7, .inr (1, [.int 0, .int 0, .int 0, .int 0, .int 0]))]) (k_rV hC hN hK hP hD (c65_X9_known l G cI cJ cB cZ a0 a1 a2 a3 a4 a5 a6 a7 a8 a9 a10 a11 a12 a13 a14 a15 a16 a17 a18 a19 a20 a21 a22 a23 a24 a25 a26 a27 a28 a29 a30 a31 a32 a33 a34 a35 a36 a37 a38 a39 a40 a41 a42 a43 a44 a45 a46 x2) [10, 11, 0, 1, 2, 3, 4, 5, 6, 7, 8] rfl (by decide) mi_X9_known in_X9_known se_X9_known wm_X9_125 9 10 rfl rfl rfl hl.1 rfl rfl (Nat.le_of_ble_eq_true rfl) ⟨(Nat.le_of_ble_eq_true rfl), (Nat.le_of_ble_eq_true rfl)⟩ dX9_span_12 ⟨(Nat.le_of_ble_eq_true rfl), (Nat.le_of_ble_eq_true rfl)⟩) hP hD hS hA [10, 11, 0, 1, 2, 3, 4, 5, 6, 7, 8] [9] rfl rfl (by decide) (by decide) (fun r3 u3 H locs hp hP hD hS => ?_)
      have hP : va_P G cl [(a7, .inr (1, [.int 0, .int 0, .int 0, .int 0, .int 0])), (a0, .inr (9, [.ref a1, .ref a2, .ref a3, .int 0, .int 0, .ref a4, .ref a5, .ref a6, .ref a7])), (a1, .inr (7, [.int 100, .int 100, .int 0, .ref a8, .ref a9, .int 0, .ref a10, .ref a11, .ref a12, .ref a13, .ref a14, .ref a15, .ref a16, .ref a17, .ref a18])), (a9, .inl (cI, 2, .inl (upd (upd (fun _ => 0) 0 16) 1 16))), (a8, .inl (cI, 2, .inl (upd (upd (fun _ => 0) 0 16) 1 16))), (a17, .inr (8, [.ref a19, .ref a20, .ref a21, .ref a22, .ref a23, .ref a24, .ref a25, .int 0])), (a3, .inr (8, [.ref a26, .ref a27, .ref a28, .ref a29, .ref a30, .ref a31, .ref a32, .int 0])), (a5, .inr (0, [.ref a33, .int 1, .int 1, .long 0, .int 1, .int 0, .long 0])), (a4, .inr (4, [.ref a1, .ref a5, .ref a35, .ref a36, .ref a37, .ref a38, .ref a39, .int 100, .int 0, .int 0, .int (-1)])), (a35, .inr (8, [.ref a40, .ref a41, .ref a42, .ref a43, .ref a44, .ref a45, .ref a46, .int 0])), (a36, .inl (cI, 7, .inl (fun _ => 0))), (a33, .inl (cJ, 256, .inr (.inl (vp_updL (fun _ => 0) 0 0))))] H := hP
      have hD : va_D A [(a7, .inr (1, [.int 0, .int 0, .int 0, .int 0, .int 0])), (a0, .inr (9, [.ref a1, .ref a2, .ref a3, .int 0, .int 0, .ref a4, .ref a5, .ref a6, .ref a7])), (a1, .inr (7, [.int 100, .int 100, .int 0, .ref a8, .ref a9, .int 0, .ref a10, .ref a11, .ref a12, .ref a13, .ref a14, .ref a15, .ref a16, .ref a17, .ref a18])), (a9, .inl (cI, 2, .inl (upd (upd (fun _ => 0) 0 16) 1 16))), (a8, .inl (cI, 2, .inl (upd (upd (fun _ => 0) 0 16) 1 16))), (a17, .inr (8, [.ref a19, .ref a20, .ref a21, .ref a22, .ref a23, .ref a24, .ref a25, .int 0])), (a3, .inr (8, [.ref a26, .ref a27, .ref a28, .ref a29, .ref a30, .ref a31, .ref a32, .int 0])), (a5, .inr (0, [.ref a33, .int 1, .int 1, .long 0, .int 1, .int 0, .long 0])), (a4, .inr (4, [.ref a1, .ref a5, .ref a35, .ref a36, .ref a37, .ref a38, .ref a39, .int 100, .int 0, .int 0, .int (-1)])), (a35, .inr (8, [.ref a40, .ref a41, .ref a42, .ref a43, .ref a44, .ref a45, .ref a46, .int 0])), (a36, .inl (cI, 7, .inl (fun _ => 0))), (a33, .inl (cJ, 256, .inr (.inl (vp_updL (fun _ => 0) 0 0))))] := hD
      subst hp
      refine lv_istore (lv' := [(4, .int 1), (0, .ref a0), (1, .int 0), (2, .int x1), (3, .int x2)]) hx hb dX9_span_15 hl (by decide) rfl (fun ls hl => ?_)
      refine lv_aload_n hx hb dX9_span_17 rfl (lv_at hl 1 rfl) ?_
      refine k_get hC hK hP iX9 1 8 wf_X9_61 rfl (by decide) rfl rfl dX9_span_18 ?_
      refine k_cv (wr := [(a0, .inr (9, [.ref a1, .ref a2, .ref a3, .int 0, .int 0, .ref a4, .ref a5, .ref a6, .ref a7])), (a1, .inr (7, [.int 100, .int 100, .int 0, .ref a8, .ref a9, .int 0, .ref a10, .ref a11, .ref a12, .ref a13, .ref a14, .ref a15, .ref a16, .ref a17, .ref a18])), (a9, .inl (cI, 2, .inl (upd (upd (fun _ => 0) 0 16) 1 16))), (a8, .inl (cI, 2, .inl (upd (upd (fun _ => 0) 0 16) 1 16))), (a17, .inr (8, [.ref a19, .ref a20, .ref a21, .ref a22, .ref a23, .ref a24, .ref a25, .int 0])), (a3, .inr (8, [.ref a26, .ref a27, .ref a28, .ref a29, .ref a30, .ref a31, .ref a32, .int 0])), (a5, .inr (0, [.ref a33, .int 1, .int 1, .long 0, .int 1, .int 0, .long 0])), (a4, .inr (4, [.ref a1, .ref a5, .ref a35, .ref a36, .ref a37, .ref a38, .ref a39, .int 100, .int 0, .int 0, .int (-1)])), (a35, .inr (8, [.ref a40, .ref a41, .ref a42, .ref a43, .ref a44, .ref a45, .ref a46, .int 0])), (a36, .inl (cI, 7, .inl (fun _ => 0))), (a33, .inl (cJ, 256, .inr (.inl (vp_updL (fun _ => 0) 0 0))))]) (k_rV hC hN hK hP hD (c79_X1_begin l G cI cJ cB cZ a7) [0] rfl (by decide) mi_X1_begin in_X1_begin se_X1_begin wm_X9_140 1 0 rfl rfl rfl hl.1 rfl rfl (Nat.le_of_ble_eq_true rfl) ⟨(Nat.le_of_ble_eq_true rfl), (Nat.le_of_ble_eq_true rfl)⟩ dX9_span_21 ⟨(Nat.le_of_ble_eq_true rfl), (Nat.le_of_ble_eq_true rfl)⟩) hP hD hS hA [0] [1, 2, 3, 4, 5, 6, 7, 8, 9, 10, 11] rfl rfl (by decide) (by decide) (fun u4 H locs hp hP hD hS => ?_)
      have hP : va_P G cl [(a0, .inr (9, [.ref a1, .ref a2, .ref a3, .int 0, .int 0, .ref a4, .ref a5, .ref a6, .ref a7])), (a1, .inr (7, [.int 100, .int 100, .int 0, .ref a8, .ref a9, .int 0, .ref a10, .ref a11, .ref a12, .ref a13, .ref a14, .ref a15, .ref a16, .ref a17, .ref a18])), (a9, .inl (cI, 2, .inl (upd (upd (fun _ => 0) 0 16) 1 16))), (a8, .inl (cI, 2, .inl (upd (upd (fun _ => 0) 0 16) 1 16))), (a17, .inr (8, [.ref a19, .ref a20, .ref a21, .ref a22, .ref a23, .ref a24, .ref a25, .int 0])), (a3, .inr (8, [.ref a26, .ref a27, .ref a28, .ref a29, .ref a30, .ref a31, .ref a32, .int 0])), (a5, .inr (0, [.ref a33, .int 1, .int 1, .long 0, .int 1, .int 0, .long 0])), (a4, .inr (4, [.ref a1, .ref a5, .ref a35, .ref a36, .ref a37, .ref a38, .ref a39, .int 100, .int 0, .int 0, .int (-1)])), (a35, .inr (8, [.ref a40, .ref a41, .ref a42, .ref a43, .ref a44, .ref a45, .ref a46, .int 0])), (a36, .inl (cI, 7, .inl (fun _ => 0))), (a33, .inl (cJ, 256, .inr (.inl (vp_updL (fun _ => 0) 0 0)))), (a7, .inr (1, [.int 0, .int 0, .int 0, .int 0, .int 0]))] H := hP
      have hD : va_D A [(a0, .inr (9, [.ref a1, .ref a2, .ref a3, .int 0, .int 0, .ref a4, .ref a5, .ref a6, .ref a7])), (a1, .inr (7, [.int 100, .int 100, .int 0, .ref a8, .ref a9, .int 0, .ref a10, .ref a11, .ref a12, .ref a13, .ref a14, .ref a15, .ref a16, .ref a17, .ref a18])), (a9, .inl (cI, 2, .inl (upd (upd (fun _ => 0) 0 16) 1 16))), (a8, .inl (cI, 2, .inl (upd (upd (fun _ => 0) 0 16) 1 16))), (a17, .inr (8, [.ref a19, .ref a20, .ref a21, .ref a22, .ref a23, .ref a24, .ref a25, .int 0])), (a3, .inr (8, [.ref a26, .ref a27, .ref a28, .ref a29, .ref a30, .ref a31, .ref a32, .int 0])), (a5, .inr (0, [.ref a33, .int 1, .int 1, .long 0, .int 1, .int 0, .long 0])), (a4, .inr (4, [.ref a1, .ref a5, .ref a35, .ref a36, .ref a37, .ref a38, .ref a39, .int 100, .int 0, .int 0, .int (-1)])), (a35, .inr (8, [.ref a40, .ref a41, .ref a42, .ref a43, .ref a44, .ref a45, .ref a46, .int 0])), (a36, .inl (cI, 7, .inl (fun _ => 0))), (a33, .inl (cJ, 256, .inr (.inl (vp_updL (fun _ => 0) 0 0)))), (a7, .inr (1, [.int 0, .int 0, .int 0, .int 0, .int 0]))] := hD
      refine lv_iconst (v := 0) hx hb dX9_span_24 (by decide) ?_
      refine lv_istore (lv' := [(5, .int 0), (4, .int 1), (0, .ref a0), (1, .int 0), (2, .int x1), (3, .int x2)]) hx hb dX9_span_25 hl (by decide) rfl (fun ls hl => ?_)
      refine lv_iload hx hb dX9_span_27 (lv_at hl 0 rfl) ?_
      refine lv_iload hx hb dX9_span_29 (lv_at hl 1 rfl) ?_
      refine lv_icmp_ge (tgt := 64) hx hb dX9_span_31 (by decide) (fun c_ => absurd c_ (by decide +kernel)) (fun _ => ?_)
      refine lv_aload_n hx hb dX9_span_34 rfl (lv_at hl 2 rfl) ?_
      refine k_get hC hK hP iX9 0 8 wf_X9_61 rfl (by decide) rfl rfl dX9_span_35 ?_
      refine lv_aload_n hx hb dX9_span_38 rfl (lv_at hl 2 rfl) ?_
      refine k_get hC hK hP iX9 0 0 wf_X9_10 rfl (by decide) rfl rfl dX9_span_39 ?_
      refine lv_aload_n hx hb dX9_span_42 rfl (lv_at hl 2 rfl) ?_
      refine k_get hC hK hP iX9 0 6 wf_X9_50 rfl (by decide) rfl rfl dX9_span_43 ?_
      refine lv_iload hx hb dX9_span_46 (lv_at hl 0 rfl) ?_
      refine k_cl (wr := [(a0, .inr (9, [.ref a1, .ref a2, .ref a3, .int 0, .int 0, .ref a4, .ref a5, .ref a6, .ref a7])), (a1, .inr (7, [.int 100, .int 100, .int 0, .ref a8, .ref a9, .int 0, .ref a10, .ref a11, .ref a12, .ref a13, .ref a14, .ref a15, .ref a16, .ref a17, .ref a18])), (a9, .inl (cI, 2, .inl (upd (upd (fun _ => 0) 0 16) 1 16))), (a8, .inl (cI, 2, .inl (upd (upd (fun _ => 0) 0 16) 1 16))), (a17, .inr (8, [.ref a19, .ref a20, .ref a21, .ref a22, .ref a23, .ref a24, .ref a25, .int 0])), (a3, .inr (8, [.ref a26, .ref a27, .ref a28, .ref a29, .ref a30, .ref a31, .ref a32, .int 0])), (a4, .inr (4, [.ref a1, .ref a5, .ref a35, .ref a36, .ref a37, .ref a38, .ref a39, .int 100, .int 0, .int 0, .int (-1)])), (a35, .inr (8, [.ref a40, .ref a41, .ref a42, .ref a43, .ref a44, .ref a45, .ref a46, .int 0])), (a36, .inl (cI, 7, .inl (fun _ => 0))), (a7, .inr (1, [.int 0, .int 0, .int 0, .int 0, .int 0]))]) (k_rV hC hN hK hP hD (c68_X0_row l G cI cJ cB cZ a5 a33) [6, 10] rfl (by decide) mi_X0_row in_X0_row se_X0_row wm_X9_132 0 6 rfl rfl rfl hl.1 rfl rfl (Nat.le_of_ble_eq_true rfl) ⟨(Nat.le_of_ble_eq_true rfl), (Nat.le_of_ble_eq_true rfl)⟩ dX9_span_48 ⟨(Nat.le_of_ble_eq_true rfl), (Nat.le_of_ble_eq_true rfl)⟩) hP hD hS hA [6, 10] [0, 1, 2, 3, 4, 5, 7, 8, 9, 11] rfl rfl (by decide) (by decide) (fun r5 u5 H locs hp hP hD hS => ?_)
      have hP : va_P G cl [(a0, .inr (9, [.ref a1, .ref a2, .ref a3, .int 0, .int 0, .ref a4, .ref a5, .ref a6, .ref a7])), (a1, .inr (7, [.int 100, .int 100, .int 0, .ref a8, .ref a9, .int 0, .ref a10, .ref a11, .ref a12, .ref a13, .ref a14, .ref a15, .ref a16, .ref a17, .ref a18])), (a9, .inl (cI, 2, .inl (upd (upd (fun _ => 0) 0 16) 1 16))), (a8, .inl (cI, 2, .inl (upd (upd (fun _ => 0) 0 16) 1 16))), (a17, .inr (8, [.ref a19, .ref a20, .ref a21, .ref a22, .ref a23, .ref a24, .ref a25, .int 0])), (a3, .inr (8, [.ref a26, .ref a27, .ref a28, .ref a29, .ref a30, .ref a31, .ref a32, .int 0])), (a4, .inr (4, [.ref a1, .ref a5, .ref a35, .ref a36, .ref a37, .ref a38, .ref a39, .int 100, .int 0, .int 0, .int (-1)])), (a35, .inr (8, [.ref a40, .ref a41, .ref a42, .ref a43, .ref a44, .ref a45, .ref a46, .int 0])), (a36, .inl (cI, 7, .inl (fun _ => 0))), (a7, .inr (1, [.int 0, .int 0, .int 0, .int 0, .int 0])), (a5, .inr (0, [.ref a33, .int 1, .int 1, .long 0, .int 1, .int 0, .long 0])), (a33, .inl (cJ, 256, .inr (.inl (vp_updL (fun _ => 0) 0 0))))] H := hP
      have hD : va_D A [(a0, .inr (9, [.ref a1, .ref a2, .ref a3, .int 0, .int 0, .ref a4, .ref a5, .ref a6, .ref a7])), (a1, .inr (7, [.int 100, .int 100, .int 0, .ref a8, .ref a9, .int 0, .ref a10, .ref a11, .ref a12, .ref a13, .ref a14, .ref a15, .ref a16, .ref a17, .ref a18])), (a9, .inl (cI, 2, .inl (upd (upd (fun _ => 0) 0 16) 1 16))), (a8, .inl (cI, 2, .inl (upd (upd (fun _ => 0) 0 16) 1 16))), (a17, .inr (8, [.ref a19, .ref a20, .ref a21, .ref a22, .ref a23, .ref a24, .ref a25, .int 0])), (a3, .inr (8, [.ref a26, .ref a27, .ref a28, .ref a29, .ref a30, .ref a31, .ref a32, .int 0])), (a4, .inr (4, [.ref a1, .ref a5, .ref a35, .ref a36, .ref a37, .ref a38, .ref a39, .int 100, .int 0, .int 0, .int (-1)])), (a35, .inr (8, [.ref a40, .ref a41, .ref a42, .ref a43, .ref a44, .ref a45, .ref a46, .int 0])), (a36, .inl (cI, 7, .inl (fun _ => 0))), (a7, .inr (1, [.int 0, .int 0, .int 0, .int 0, .int 0])), (a5, .inr (0, [.ref a33, .int 1, .int 1, .long 0, .int 1, .int 0, .long 0])), (a33, .inl (cJ, 256, .inr (.inl (vp_updL (fun _ => 0) 0 0))))] := hD
      subst hp
      refine lv_iload_n hx hb dX9_span_51 rfl (lv_at hl 3 rfl) ?_
      refine k_ci (wr := [(a0, .inr (9, [.ref a1, .ref a2, .ref a3, .int 0, .int 0, .ref a4, .ref a5, .ref a6, .ref a7])), (a9, .inl (cI, 2, .inl (upd (upd (fun _ => 0) 0 16) 1 16))), (a8, .inl (cI, 2, .inl (upd (upd (fun _ => 0) 0 16) 1 16))), (a17, .inr (8, [.ref a19, .ref a20, .ref a21, .ref a22, .ref a23, .ref a24, .ref a25, .int 0])), (a3, .inr (8, [.ref a26, .ref a27, .ref a28, .ref a29, .ref a30, .ref a31, .ref a32, .int 0])), (a4, .inr (4, [.ref a1, .ref a5, .ref a35, .ref a36, .ref a37, .ref a38, .ref a39, .int 100, .int 0, .int 0, .int (-1)])), (a35, .inr (8, [.ref a40, .ref a41, .ref a42, .ref a43, .ref a44, .ref a45, .ref a46, .int 0])), (a36, .inl (cI, 7, .inl (fun _ => 0))), (a7, .inr (1, [.int 0, .int 0, .int 0, .int 0, .int 0])), (a5, .inr (0, [.ref a33, .int 1, .int 1, .long 0, .int 1, .int 0, .long 0])), (a33, .inl (cJ, 256, .inr (.inl (vp_updL (fun _ => 0) 0 0))))]) (k_rV hC hN hK hP hD (c71_X7_partOf l G cI cJ cB cZ a1 a8 a9 a10 a11 a12 a13 a14 a15 a16 a17 a18) [1] rfl (by decide) mi_X7_partOf in_X7_partOf se_X7_partOf wm_X9_136 7 1 rfl rfl rfl hl.1 rfl rfl (Nat.le_of_ble_eq_true rfl) ⟨(Nat.le_of_ble_eq_true rfl), (Nat.le_of_ble_eq_true rfl)⟩ dX9_span_52 ⟨(Nat.le_of_ble_eq_true rfl), (Nat.le_of_ble_eq_true rfl)⟩) hP hD hS hA [1] [0, 2, 3, 4, 5, 6, 7, 8, 9, 10, 11] rfl rfl (by decide) (by decide) (fun r6 u6 H locs hp hP hD hS => ?_)
      have hP : va_P G cl [(a0, .inr (9, [.ref a1, .ref a2, .ref a3, .int 0, .int 0, .ref a4, .ref a5, .ref a6, .ref a7])), (a9, .inl (cI, 2, .inl (upd (upd (fun _ => 0) 0 16) 1 16))), (a8, .inl (cI, 2, .inl (upd (upd (fun _ => 0) 0 16) 1 16))), (a17, .inr (8, [.ref a19, .ref a20, .ref a21, .ref a22, .ref a23, .ref a24, .ref a25, .int 0])), (a3, .inr (8, [.ref a26, .ref a27, .ref a28, .ref a29, .ref a30, .ref a31, .ref a32, .int 0])), (a4, .inr (4, [.ref a1, .ref a5, .ref a35, .ref a36, .ref a37, .ref a38, .ref a39, .int 100, .int 0, .int 0, .int (-1)])), (a35, .inr (8, [.ref a40, .ref a41, .ref a42, .ref a43, .ref a44, .ref a45, .ref a46, .int 0])), (a36, .inl (cI, 7, .inl (fun _ => 0))), (a7, .inr (1, [.int 0, .int 0, .int 0, .int 0, .int 0])), (a5, .inr (0, [.ref a33, .int 1, .int 1, .long 0, .int 1, .int 0, .long 0])), (a33, .inl (cJ, 256, .inr (.inl (vp_updL (fun _ => 0) 0 0)))), (a1, .inr (7, [.int 100, .int 100, .int 0, .ref a8, .ref a9, .int 0, .ref a10, .ref a11, .ref a12, .ref a13, .ref a14, .ref a15, .ref a16, .ref a17, .ref a18]))] H := hP
      have hD : va_D A [(a0, .inr (9, [.ref a1, .ref a2, .ref a3, .int 0, .int 0, .ref a4, .ref a5, .ref a6, .ref a7])), (a9, .inl (cI, 2, .inl (upd (upd (fun _ => 0) 0 16) 1 16))), (a8, .inl (cI, 2, .inl (upd (upd (fun _ => 0) 0 16) 1 16))), (a17, .inr (8, [.ref a19, .ref a20, .ref a21, .ref a22, .ref a23, .ref a24, .ref a25, .int 0])), (a3, .inr (8, [.ref a26, .ref a27, .ref a28, .ref a29, .ref a30, .ref a31, .ref a32, .int 0])), (a4, .inr (4, [.ref a1, .ref a5, .ref a35, .ref a36, .ref a37, .ref a38, .ref a39, .int 100, .int 0, .int 0, .int (-1)])), (a35, .inr (8, [.ref a40, .ref a41, .ref a42, .ref a43, .ref a44, .ref a45, .ref a46, .int 0])), (a36, .inl (cI, 7, .inl (fun _ => 0))), (a7, .inr (1, [.int 0, .int 0, .int 0, .int 0, .int 0])), (a5, .inr (0, [.ref a33, .int 1, .int 1, .long 0, .int 1, .int 0, .long 0])), (a33, .inl (cJ, 256, .inr (.inl (vp_updL (fun _ => 0) 0 0)))), (a1, .inr (7, [.int 100, .int 100, .int 0, .ref a8, .ref a9, .int 0, .ref a10, .ref a11, .ref a12, .ref a13, .ref a14, .ref a15, .ref a16, .ref a17, .ref a18]))] := hD
      subst hp
      refine k_cv (wr := [(a0, .inr (9, [.ref a1, .ref a2, .ref a3, .int 0, .int 0, .ref a4, .ref a5, .ref a6, .ref a7])), (a9, .inl (cI, 2, .inl (upd (upd (fun _ => 0) 0 16) 1 16))), (a8, .inl (cI, 2, .inl (upd (upd (fun _ => 0) 0 16) 1 16))), (a17, .inr (8, [.ref a19, .ref a20, .ref a21, .ref a22, .ref a23, .ref a24, .ref a25, .int 0])), (a3, .inr (8, [.ref a26, .ref a27, .ref a28, .ref a29, .ref a30, .ref a31, .ref a32, .int 0])), (a4, .inr (4, [.ref a1, .ref a5, .ref a35, .ref a36, .ref a37, .ref a38, .ref a39, .int 100, .int 0, .int 0, .int (-1)])), (a35, .inr (8, [.ref a40, .ref a41, .ref a42, .ref a43, .ref a44, .ref a45, .ref a46, .int 0])), (a36, .inl (cI, 7, .inl (fun _ => 0))), (a5, .inr (0, [.ref a33, .int 1, .int 1, .long 0, .int 1, .int 0, .long 0])), (a33, .inl (cJ, 256, .inr (.inl (vp_updL (fun _ => 0) 0 0)))), (a1, .inr (7, [.int 100, .int 100, .int 0, .ref a8, .ref a9, .int 0, .ref a10, .ref a11, .ref a12, .ref a13, .ref a14, .ref a15, .ref a16, .ref a17, .ref a18]))]) (k_rV hC hN hK hP hD (c80_X1_take l G cI cJ cB cZ a7) [8] rfl (by decide) mi_X1_take in_X1_take se_X1_take wm_X9_143 1 8 rfl rfl rfl hl.1 rfl rfl (Nat.le_of_ble_eq_true rfl) ⟨(Nat.le_of_ble_eq_true rfl), (Nat.le_of_ble_eq_true rfl)⟩ dX9_span_55 ⟨(Nat.le_of_ble_eq_true rfl), (Nat.le_of_ble_eq_true rfl)⟩) hP hD hS hA [8] [0, 1, 2, 3, 4, 5, 6, 7, 9, 10, 11] rfl rfl (by decide) (by decide) (fun u7 H locs hp hP hD hS => ?_)
      have hP : va_P G cl [(a0, .inr (9, [.ref a1, .ref a2, .ref a3, .int 0, .int 0, .ref a4, .ref a5, .ref a6, .ref a7])), (a9, .inl (cI, 2, .inl (upd (upd (fun _ => 0) 0 16) 1 16))), (a8, .inl (cI, 2, .inl (upd (upd (fun _ => 0) 0 16) 1 16))), (a17, .inr (8, [.ref a19, .ref a20, .ref a21, .ref a22, .ref a23, .ref a24, .ref a25, .int 0])), (a3, .inr (8, [.ref a26, .ref a27, .ref a28, .ref a29, .ref a30, .ref a31, .ref a32, .int 0])), (a4, .inr (4, [.ref a1, .ref a5, .ref a35, .ref a36, .ref a37, .ref a38, .ref a39, .int 100, .int 0, .int 0, .int (-1)])), (a35, .inr (8, [.ref a40, .ref a41, .ref a42, .ref a43, .ref a44, .ref a45, .ref a46, .int 0])), (a36, .inl (cI, 7, .inl (fun _ => 0))), (a5, .inr (0, [.ref a33, .int 1, .int 1, .long 0, .int 1, .int 0, .long 0])), (a33, .inl (cJ, 256, .inr (.inl (vp_updL (fun _ => 0) 0 0)))), (a1, .inr (7, [.int 100, .int 100, .int 0, .ref a8, .ref a9, .int 0, .ref a10, .ref a11, .ref a12, .ref a13, .ref a14, .ref a15, .ref a16, .ref a17, .ref a18])), (a7, .inr (1, [.int 1, .int 100, .int 100, .int 0, .int 0]))] H := hP
      have hD : va_D A [(a0, .inr (9, [.ref a1, .ref a2, .ref a3, .int 0, .int 0, .ref a4, .ref a5, .ref a6, .ref a7])), (a9, .inl (cI, 2, .inl (upd (upd (fun _ => 0) 0 16) 1 16))), (a8, .inl (cI, 2, .inl (upd (upd (fun _ => 0) 0 16) 1 16))), (a17, .inr (8, [.ref a19, .ref a20, .ref a21, .ref a22, .ref a23, .ref a24, .ref a25, .int 0])), (a3, .inr (8, [.ref a26, .ref a27, .ref a28, .ref a29, .ref a30, .ref a31, .ref a32, .int 0])), (a4, .inr (4, [.ref a1, .ref a5, .ref a35, .ref a36, .ref a37, .ref a38, .ref a39, .int 100, .int 0, .int 0, .int (-1)])), (a35, .inr (8, [.ref a40, .ref a41, .ref a42, .ref a43, .ref a44, .ref a45, .ref a46, .int 0])), (a36, .inl (cI, 7, .inl (fun _ => 0))), (a5, .inr (0, [.ref a33, .int 1, .int 1, .long 0, .int 1, .int 0, .long 0])), (a33, .inl (cJ, 256, .inr (.inl (vp_updL (fun _ => 0) 0 0)))), (a1, .inr (7, [.int 100, .int 100, .int 0, .ref a8, .ref a9, .int 0, .ref a10, .ref a11, .ref a12, .ref a13, .ref a14, .ref a15, .ref a16, .ref a17, .ref a18])), (a7, .inr (1, [.int 1, .int 100, .int 100, .int 0, .int 0]))] := hD
      refine lv_iinc (v := 1) (lv' := [(5, .int 1), (4, .int 1), (0, .ref a0), (1, .int 0), (2, .int x1), (3, .int x2)]) hx hb dX9_span_58 hl (k := 0) rfl (by decide +kernel) (by decide) rfl (fun ls hl => ?_)
      refine lv_goto (tgt := 27) hx hb dX9_span_61 (by decide) ?_
      refine lv_iload hx hb dX9_span_27 (lv_at hl 0 rfl) ?_
      refine lv_iload hx hb dX9_span_29 (lv_at hl 1 rfl) ?_
      refine lv_icmp_ge (tgt := 64) hx hb dX9_span_31 (by decide) (fun _ => ?_) (fun c_ => absurd (by decide +kernel) c_)
      refine lv_aload_n hx hb dX9_span_64 rfl (lv_at hl 2 rfl) ?_
      refine lv_iload hx hb dX9_span_65 (lv_at hl 1 rfl) ?_
      refine lv_iload_n hx hb dX9_span_67 rfl (lv_at hl 4 rfl) ?_
      refine k_ci (wr := [(a9, .inl (cI, 2, .inl (upd (upd (fun _ => 0) 0 16) 1 16))), (a8, .inl (cI, 2, .inl (upd (upd (fun _ => 0) 0 16) 1 16))), (a17, .inr (8, [.ref a19, .ref a20, .ref a21, .ref a22, .ref a23, .ref a24, .ref a25, .int 0])), (a3, .inr (8, [.ref a26, .ref a27, .ref a28, .ref a29, .ref a30, .ref a31, .ref a32, .int 0])), (a4, .inr (4, [.ref a1, .ref a5, .ref a35, .ref a36, .ref a37, .ref a38, .ref a39, .int 100, .int 0, .int 0, .int (-1)])), (a35, .inr (8, [.ref a40, .ref a41, .ref a42, .ref a43, .ref a44, .ref a45, .ref a46, .int 0])), (a36, .inl (cI, 7, .inl (fun _ => 0))), (a5, .inr (0, [.ref a33, .int 1, .int 1, .long 0, .int 1, .int 0, .long 0])), (a33, .inl (cJ, 256, .inr (.inl (vp_updL (fun _ => 0) 0 0)))), (a1, .inr (7, [.int 100, .int 100, .int 0, .ref a8, .ref a9, .int 0, .ref a10, .ref a11, .ref a12, .ref a13, .ref a14, .ref a15, .ref a16, .ref a17, .ref a18]))]) (k_rV hC hN hK hP hD (c82_X9_edge l G cI cJ cB cZ a0 a1 a2 a3 a4 a5 a6 a7 x1) [0, 11] rfl (by decide) mi_X9_edge in_X9_edge se_X9_edge wm_X9_146 9 0 rfl rfl rfl hl.1 rfl rfl (Nat.le_of_ble_eq_true rfl) ⟨(Nat.le_of_ble_eq_true rfl), (Nat.le_of_ble_eq_true rfl)⟩ dX9_span_68 ⟨(Nat.le_of_ble_eq_true rfl), (Nat.le_of_ble_eq_true rfl)⟩) hP hD hS hA [0, 11] [1, 2, 3, 4, 5, 6, 7, 8, 9, 10] rfl rfl (by decide) (by decide) (fun r8 u8 H locs hp hP hD hS => ?_)
      have hP : va_P G cl [(a9, .inl (cI, 2, .inl (upd (upd (fun _ => 0) 0 16) 1 16))), (a8, .inl (cI, 2, .inl (upd (upd (fun _ => 0) 0 16) 1 16))), (a17, .inr (8, [.ref a19, .ref a20, .ref a21, .ref a22, .ref a23, .ref a24, .ref a25, .int 0])), (a3, .inr (8, [.ref a26, .ref a27, .ref a28, .ref a29, .ref a30, .ref a31, .ref a32, .int 0])), (a4, .inr (4, [.ref a1, .ref a5, .ref a35, .ref a36, .ref a37, .ref a38, .ref a39, .int 100, .int 0, .int 0, .int (-1)])), (a35, .inr (8, [.ref a40, .ref a41, .ref a42, .ref a43, .ref a44, .ref a45, .ref a46, .int 0])), (a36, .inl (cI, 7, .inl (fun _ => 0))), (a5, .inr (0, [.ref a33, .int 1, .int 1, .long 0, .int 1, .int 0, .long 0])), (a33, .inl (cJ, 256, .inr (.inl (vp_updL (fun _ => 0) 0 0)))), (a1, .inr (7, [.int 100, .int 100, .int 0, .ref a8, .ref a9, .int 0, .ref a10, .ref a11, .ref a12, .ref a13, .ref a14, .ref a15, .ref a16, .ref a17, .ref a18])), (a0, .inr (9, [.ref a1, .ref a2, .ref a3, .int 0, .int 0, .ref a4, .ref a5, .ref a6, .ref a7])), (a7, .inr (1, [.int 1, .int 100, .int 100, .int 0, .int 0]))] H := hP
      have hD : va_D A [(a9, .inl (cI, 2, .inl (upd (upd (fun _ => 0) 0 16) 1 16))), (a8, .inl (cI, 2, .inl (upd (upd (fun _ => 0) 0 16) 1 16))), (a17, .inr (8, [.ref a19, .ref a20, .ref a21, .ref a22, .ref a23, .ref a24, .ref a25, .int 0])), (a3, .inr (8, [.ref a26, .ref a27, .ref a28, .ref a29, .ref a30, .ref a31, .ref a32, .int 0])), (a4, .inr (4, [.ref a1, .ref a5, .ref a35, .ref a36, .ref a37, .ref a38, .ref a39, .int 100, .int 0, .int 0, .int (-1)])), (a35, .inr (8, [.ref a40, .ref a41, .ref a42, .ref a43, .ref a44, .ref a45, .ref a46, .int 0])), (a36, .inl (cI, 7, .inl (fun _ => 0))), (a5, .inr (0, [.ref a33, .int 1, .int 1, .long 0, .int 1, .int 0, .long 0])), (a33, .inl (cJ, 256, .inr (.inl (vp_updL (fun _ => 0) 0 0)))), (a1, .inr (7, [.int 100, .int 100, .int 0, .ref a8, .ref a9, .int 0, .ref a10, .ref a11, .ref a12, .ref a13, .ref a14, .ref a15, .ref a16, .ref a17, .ref a18])), (a0, .inr (9, [.ref a1, .ref a2, .ref a3, .int 0, .int 0, .ref a4, .ref a5, .ref a6, .ref a7])), (a7, .inr (1, [.int 1, .int 100, .int 100, .int 0, .int 0]))] := hD
      subst hp
      exact k_iret hC hr hlk hK hP hD hS () [] rfl (by decide) (by first | decide | (unfold sp_span; rw [if_neg (by omega)]) | (unfold sp_span; rw [if_pos (by omega)])) (Nat.le_of_ble_eq_true rfl) (Nat.le_of_ble_eq_true rfl) dX9_span_71
    · skip
      refine lv_if_ne (tgt := 10) hx hb dX9_span_5 (by decide) (fun _ => ?_) (fun c_ => absurd c_ (by decide +kernel))
      refine lv_aload_n hx hb dX9_span_10 rfl (lv_at hl 0 rfl) ?_
      refine lv_iload_n hx hb dX9_span_11 rfl (lv_at hl 3 rfl) ?_
      refine k_ci (wr := [(a7, .inr (1, [.int 0, .int 0, .int 0, .int 0, .int 0]))]) (k_rV hC hN hK hP hD (c65_X9_known l G cI cJ cB cZ a0 a1 a2 a3 a4 a5 a6 a7 a8 a9 a10 a11 a12 a13 a14 a15 a16 a17 a18 a19 a20 a21 a22 a23 a24 a25 a26 a27 a28 a29 a30 a31 a32 a33 a34 a35 a36 a37 a38 a39 a40 a41 a42 a43 a44 a45 a46 x2) [10, 11, 0, 1, 2, 3, 4, 5, 6, 7, 8] rfl (by decide) mi_X9_known in_X9_known se_X9_known wm_X9_125 9 10 rfl rfl rfl hl.1 rfl rfl (Nat.le_of_ble_eq_true rfl) ⟨(Nat.le_of_ble_eq_true rfl), (Nat.le_of_ble_eq_true rfl)⟩ dX9_span_12 ⟨(Nat.le_of_ble_eq_true rfl), (Nat.le_of_ble_eq_true rfl)⟩) hP hD hS hA [10, 11, 0, 1, 2, 3, 4, 5, 6, 7, 8] [9] rfl rfl (by decide) (by decide) (fun r9 u9 H locs hp hP hD hS => ?_)
      have hP : va_P G cl [(a7, .inr (1, [.int 0, .int 0, .int 0, .int 0, .int 0])), (a0, .inr (9, [.ref a1, .ref a2, .ref a3, .int 0, .int 0, .ref a4, .ref a5, .ref a6, .ref a7])), (a1, .inr (7, [.int 100, .int 100, .int 0, .ref a8, .ref a9, .int 0, .ref a10, .ref a11, .ref a12, .ref a13, .ref a14, .ref a15, .ref a16, .ref a17, .ref a18])), (a9, .inl (cI, 2, .inl (upd (upd (fun _ => 0) 0 16) 1 16))), (a8, .inl (cI, 2, .inl (upd (upd (fun _ => 0) 0 16) 1 16))), (a17, .inr (8, [.ref a19, .ref a20, .ref a21, .ref a22, .ref a23, .ref a24, .ref a25, .int 0])), (a3, .inr (8, [.ref a26, .ref a27, .ref a28, .ref a29, .ref a30, .ref a31, .ref a32, .int 0])), (a5, .inr (0, [.ref a33, .int 1, .int 1, .long 0, .int 1, .int 0, .long 0])), (a4, .inr (4, [.ref a1, .ref a5, .ref a35, .ref a36, .ref a37, .ref a38, .ref a39, .int 100, .int 0, .int 0, .int (-1)])), (a35, .inr (8, [.ref a40, .ref a41, .ref a42, .ref a43, .ref a44, .ref a45, .ref a46, .int 0])), (a36, .inl (cI, 7, .inl (fun _ => 0))), (a33, .inl (cJ, 256, .inr (.inl (vp_updL (fun _ => 0) 0 0))))] H := hP
      have hD : va_D A [(a7, .inr (1, [.int 0, .int 0, .int 0, .int 0, .int 0])), (a0, .inr (9, [.ref a1, .ref a2, .ref a3, .int 0, .int 0, .ref a4, .ref a5, .ref a6, .ref a7])), (a1, .inr (7, [.int 100, .int 100, .int 0, .ref a8, .ref a9, .int 0, .ref a10, .ref a11, .ref a12, .ref a13, .ref a14, .ref a15, .ref a16, .ref a17, .ref a18])), (a9, .inl (cI, 2, .inl (upd (upd (fun _ => 0) 0 16) 1 16))), (a8, .inl (cI, 2, .inl (upd (upd (fun _ => 0) 0 16) 1 16))), (a17, .inr (8, [.ref a19, .ref a20, .ref a21, .ref a22, .ref a23, .ref a24, .ref a25, .int 0])), (a3, .inr (8, [.ref a26, .ref a27, .ref a28, .ref a29, .ref a30, .ref a31, .ref a32, .int 0])), (a5, .inr (0, [.ref a33, .int 1, .int 1, .long 0, .int 1, .int 0, .long 0])), (a4, .inr (4, [.ref a1, .ref a5, .ref a35, .ref a36, .ref a37, .ref a38, .ref a39, .int 100, .int 0, .int 0, .int (-1)])), (a35, .inr (8, [.ref a40, .ref a41, .ref a42, .ref a43, .ref a44, .ref a45, .ref a46, .int 0])), (a36, .inl (cI, 7, .inl (fun _ => 0))), (a33, .inl (cJ, 256, .inr (.inl (vp_updL (fun _ => 0) 0 0))))] := hD
      subst hp
      refine lv_istore (lv' := [(4, .int 1), (0, .ref a0), (1, .int 1), (2, .int x1), (3, .int x2)]) hx hb dX9_span_15 hl (by decide) rfl (fun ls hl => ?_)
      refine lv_aload_n hx hb dX9_span_17 rfl (lv_at hl 1 rfl) ?_
      refine k_get hC hK hP iX9 1 8 wf_X9_61 rfl (by decide) rfl rfl dX9_span_18 ?_
      refine k_cv (wr := [(a0, .inr (9, [.ref a1, .ref a2, .ref a3, .int 0, .int 0, .ref a4, .ref a5, .ref a6, .ref a7])), (a1, .inr (7, [.int 100, .int 100, .int 0, .ref a8, .ref a9, .int 0, .ref a10, .ref a11, .ref a12, .ref a13, .ref a14, .ref a15, .ref a16, .ref a17, .ref a18])), (a9, .inl (cI, 2, .inl (upd (upd (fun _ => 0) 0 16) 1 16))), (a8, .inl (cI, 2, .inl (upd (upd (fun _ => 0) 0 16) 1 16))), (a17, .inr (8, [.ref a19, .ref a20, .ref a21, .ref a22, .ref a23, .ref a24, .ref a25, .int 0])), (a3, .inr (8, [.ref a26, .ref a27, .ref a28, .ref a29, .ref a30, .ref a31, .ref a32, .int 0])), (a5, .inr (0, [.ref a33, .int 1, .int 1, .long 0, .int 1, .int 0, .long 0])), (a4, .inr (4, [.ref a1, .ref a5, .ref a35, .ref a36, .ref a37, .ref a38, .ref a39, .int 100, .int 0, .int 0, .int (-1)])), (a35, .inr (8, [.ref a40, .ref a41, .ref a42, .ref a43, .ref a44, .ref a45, .ref a46, .int 0])), (a36, .inl (cI, 7, .inl (fun _ => 0))), (a33, .inl (cJ, 256, .inr (.inl (vp_updL (fun _ => 0) 0 0))))]) (k_rV hC hN hK hP hD (c79_X1_begin l G cI cJ cB cZ a7) [0] rfl (by decide) mi_X1_begin in_X1_begin se_X1_begin wm_X9_140 1 0 rfl rfl rfl hl.1 rfl rfl (Nat.le_of_ble_eq_true rfl) ⟨(Nat.le_of_ble_eq_true rfl), (Nat.le_of_ble_eq_true rfl)⟩ dX9_span_21 ⟨(Nat.le_of_ble_eq_true rfl), (Nat.le_of_ble_eq_true rfl)⟩) hP hD hS hA [0] [1, 2, 3, 4, 5, 6, 7, 8, 9, 10, 11] rfl rfl (by decide) (by decide) (fun u10 H locs hp hP hD hS => ?_)
      have hP : va_P G cl [(a0, .inr (9, [.ref a1, .ref a2, .ref a3, .int 0, .int 0, .ref a4, .ref a5, .ref a6, .ref a7])), (a1, .inr (7, [.int 100, .int 100, .int 0, .ref a8, .ref a9, .int 0, .ref a10, .ref a11, .ref a12, .ref a13, .ref a14, .ref a15, .ref a16, .ref a17, .ref a18])), (a9, .inl (cI, 2, .inl (upd (upd (fun _ => 0) 0 16) 1 16))), (a8, .inl (cI, 2, .inl (upd (upd (fun _ => 0) 0 16) 1 16))), (a17, .inr (8, [.ref a19, .ref a20, .ref a21, .ref a22, .ref a23, .ref a24, .ref a25, .int 0])), (a3, .inr (8, [.ref a26, .ref a27, .ref a28, .ref a29, .ref a30, .ref a31, .ref a32, .int 0])), (a5, .inr (0, [.ref a33, .int 1, .int 1, .long 0, .int 1, .int 0, .long 0])), (a4, .inr (4, [.ref a1, .ref a5, .ref a35, .ref a36, .ref a37, .ref a38, .ref a39, .int 100, .int 0, .int 0, .int (-1)])), (a35, .inr (8, [.ref a40, .ref a41, .ref a42, .ref a43, .ref a44, .ref a45, .ref a46, .int 0])), (a36, .inl (cI, 7, .inl (fun _ => 0))), (a33, .inl (cJ, 256, .inr (.inl (vp_updL (fun _ => 0) 0 0)))), (a7, .inr (1, [.int 0, .int 0, .int 0, .int 0, .int 0]))] H := hP
      have hD : va_D A [(a0, .inr (9, [.ref a1, .ref a2, .ref a3, .int 0, .int 0, .ref a4, .ref a5, .ref a6, .ref a7])), (a1, .inr (7, [.int 100, .int 100, .int 0, .ref a8, .ref a9, .int 0, .ref a10, .ref a11, .ref a12, .ref a13, .ref a14, .ref a15, .ref a16, .ref a17, .ref a18])), (a9, .inl (cI, 2, .inl (upd (upd (fun _ => 0) 0 16) 1 16))), (a8, .inl (cI, 2, .inl (upd (upd (fun _ => 0) 0 16) 1 16))), (a17, .inr (8, [.ref a19, .ref a20, .ref a21, .ref a22, .ref a23, .ref a24, .ref a25, .int 0])), (a3, .inr (8, [.ref a26, .ref a27, .ref a28, .ref a29, .ref a30, .ref a31, .ref a32, .int 0])), (a5, .inr (0, [.ref a33, .int 1, .int 1, .long 0, .int 1, .int 0, .long 0])), (a4, .inr (4, [.ref a1, .ref a5, .ref a35, .ref a36, .ref a37, .ref a38, .ref a39, .int 100, .int 0, .int 0, .int (-1)])), (a35, .inr (8, [.ref a40, .ref a41, .ref a42, .ref a43, .ref a44, .ref a45, .ref a46, .int 0])), (a36, .inl (cI, 7, .inl (fun _ => 0))), (a33, .inl (cJ, 256, .inr (.inl (vp_updL (fun _ => 0) 0 0)))), (a7, .inr (1, [.int 0, .int 0, .int 0, .int 0, .int 0]))] := hD
      refine lv_iconst (v := 0) hx hb dX9_span_24 (by decide) ?_
      refine lv_istore (lv' := [(5, .int 0), (4, .int 1), (0, .ref a0), (1, .int 1), (2, .int x1), (3, .int x2)]) hx hb dX9_span_25 hl (by decide) rfl (fun ls hl => ?_)
      refine lv_iload hx hb dX9_span_27 (lv_at hl 0 rfl) ?_
      refine lv_iload hx hb dX9_span_29 (lv_at hl 1 rfl) ?_
      refine lv_icmp_ge (tgt := 64) hx hb dX9_span_31 (by decide) (fun c_ => absurd c_ (by decide +kernel)) (fun _ => ?_)
      refine lv_aload_n hx hb dX9_span_34 rfl (lv_at hl 2 rfl) ?_
      refine k_get hC hK hP iX9 0 8 wf_X9_61 rfl (by decide) rfl rfl dX9_span_35 ?_
      refine lv_aload_n hx hb dX9_span_38 rfl (lv_at hl 2 rfl) ?_
      refine k_get hC hK hP iX9 0 0 wf_X9_10 rfl (by decide) rfl rfl dX9_span_39 ?_
      refine lv_aload_n hx hb dX9_span_42 rfl (lv_at hl 2 rfl) ?_
      refine k_get hC hK hP iX9 0 6 wf_X9_50 rfl (by decide) rfl rfl dX9_span_43 ?_
      refine lv_iload hx hb dX9_span_46 (lv_at hl 0 rfl) ?_
      refine k_cl (wr := [(a0, .inr (9, [.ref a1, .ref a2, .ref a3, .int 0, .int 0, .ref a4, .ref a5, .ref a6, .ref a7])), (a1, .inr (7, [.int 100, .int 100, .int 0, .ref a8, .ref a9, .int 0, .ref a10, .ref a11, .ref a12, .ref a13, .ref a14, .ref a15, .ref a16, .ref a17, .ref a18])), (a9, .inl (cI, 2, .inl (upd (upd (fun _ => 0) 0 16) 1 16))), (a8, .inl (cI, 2, .inl (upd (upd (fun _ => 0) 0 16) 1 16))), (a17, .inr (8, [.ref a19, .ref a20, .ref a21, .ref a22, .ref a23, .ref a24, .ref a25, .int 0])), (a3, .inr (8, [.ref a26, .ref a27, .ref a28, .ref a29, .ref a30, .ref a31, .ref a32, .int 0])), (a4, .inr (4, [.ref a1, .ref a5, .ref a35, .ref a36, .ref a37, .ref a38, .ref a39, .int 100, .int 0, .int 0, .int (-1)])), (a35, .inr (8, [.ref a40, .ref a41, .ref a42, .ref a43, .ref a44, .ref a45, .ref a46, .int 0])), (a36, .inl (cI, 7, .inl (fun _ => 0))), (a7, .inr (1, [.int 0, .int 0, .int 0, .int 0, .int 0]))]) (k_rV hC hN hK hP hD (c68_X0_row l G cI cJ cB cZ a5 a33) [6, 10] rfl (by decide) mi_X0_row in_X0_row se_X0_row wm_X9_132 0 6 rfl rfl rfl hl.1 rfl rfl (Nat.le_of_ble_eq_true rfl) ⟨(Nat.le_of_ble_eq_true rfl), (Nat.le_of_ble_eq_true rfl)⟩ dX9_span_48 ⟨(Nat.le_of_ble_eq_true rfl), (Nat.le_of_ble_eq_true rfl)⟩) hP hD hS hA [6, 10] [0, 1, 2, 3, 4, 5, 7, 8, 9, 11] rfl rfl (by decide) (by decide) (fun r11 u11 H locs hp hP hD hS => ?_)
      have hP : va_P G cl [(a0, .inr (9, [.ref a1, .ref a2, .ref a3, .int 0, .int 0, .ref a4, .ref a5, .ref a6, .ref a7])), (a1, .inr (7, [.int 100, .int 100, .int 0, .ref a8, .ref a9, .int 0, .ref a10, .ref a11, .ref a12, .ref a13, .ref a14, .ref a15, .ref a16, .ref a17, .ref a18])), (a9, .inl (cI, 2, .inl (upd (upd (fun _ => 0) 0 16) 1 16))), (a8, .inl (cI, 2, .inl (upd (upd (fun _ => 0) 0 16) 1 16))), (a17, .inr (8, [.ref a19, .ref a20, .ref a21, .ref a22, .ref a23, .ref a24, .ref a25, .int 0])), (a3, .inr (8, [.ref a26, .ref a27, .ref a28, .ref a29, .ref a30, .ref a31, .ref a32, .int 0])), (a4, .inr (4, [.ref a1, .ref a5, .ref a35, .ref a36, .ref a37, .ref a38, .ref a39, .int 100, .int 0, .int 0, .int (-1)])), (a35, .inr (8, [.ref a40, .ref a41, .ref a42, .ref a43, .ref a44, .ref a45, .ref a46, .int 0])), (a36, .inl (cI, 7, .inl (fun _ => 0))), (a7, .inr (1, [.int 0, .int 0, .int 0, .int 0, .int 0])), (a5, .inr (0, [.ref a33, .int 1, .int 1, .long 0, .int 1, .int 0, .long 0])), (a33, .inl (cJ, 256, .inr (.inl (vp_updL (fun _ => 0) 0 0))))] H := hP
      have hD : va_D A [(a0, .inr (9, [.ref a1, .ref a2, .ref a3, .int 0, .int 0, .ref a4, .ref a5, .ref a6, .ref a7])), (a1, .inr (7, [.int 100, .int 100, .int 0, .ref a8, .ref a9, .int 0, .ref a10, .ref a11, .ref a12, .ref a13, .ref a14, .ref a15, .ref a16, .ref a17, .ref a18])), (a9, .inl (cI, 2, .inl (upd (upd (fun _ => 0) 0 16) 1 16))), (a8, .inl (cI, 2, .inl (upd (upd (fun _ => 0) 0 16) 1 16))), (a17, .inr (8, [.ref a19, .ref a20, .ref a21, .ref a22, .ref a23, .ref a24, .ref a25, .int 0])), (a3, .inr (8, [.ref a26, .ref a27, .ref a28, .ref a29, .ref a30, .ref a31, .ref a32, .int 0])), (a4, .inr (4, [.ref a1, .ref a5, .ref a35, .ref a36, .ref a37, .ref a38, .ref a39, .int 100, .int 0, .int 0, .int (-1)])), (a35, .inr (8, [.ref a40, .ref a41, .ref a42, .ref a43, .ref a44, .ref a45, .ref a46, .int 0])), (a36, .inl (cI, 7, .inl (fun _ => 0))), (a7, .inr (1, [.int 0, .int 0, .int 0, .int 0, .int 0])), (a5, .inr (0, [.ref a33, .int 1, .int 1, .long 0, .int 1, .int 0, .long 0])), (a33, .inl (cJ, 256, .inr (.inl (vp_updL (fun _ => 0) 0 0))))] := hD
      subst hp
      refine lv_iload_n hx hb dX9_span_51 rfl (lv_at hl 3 rfl) ?_
      refine k_ci (wr := [(a0, .inr (9, [.ref a1, .ref a2, .ref a3, .int 0, .int 0, .ref a4, .ref a5, .ref a6, .ref a7])), (a9, .inl (cI, 2, .inl (upd (upd (fun _ => 0) 0 16) 1 16))), (a17, .inr (8, [.ref a19, .ref a20, .ref a21, .ref a22, .ref a23, .ref a24, .ref a25, .int 0])), (a3, .inr (8, [.ref a26, .ref a27, .ref a28, .ref a29, .ref a30, .ref a31, .ref a32, .int 0])), (a4, .inr (4, [.ref a1, .ref a5, .ref a35, .ref a36, .ref a37, .ref a38, .ref a39, .int 100, .int 0, .int 0, .int (-1)])), (a35, .inr (8, [.ref a40, .ref a41, .ref a42, .ref a43, .ref a44, .ref a45, .ref a46, .int 0])), (a36, .inl (cI, 7, .inl (fun _ => 0))), (a7, .inr (1, [.int 0, .int 0, .int 0, .int 0, .int 0])), (a5, .inr (0, [.ref a33, .int 1, .int 1, .long 0, .int 1, .int 0, .long 0])), (a33, .inl (cJ, 256, .inr (.inl (vp_updL (fun _ => 0) 0 0))))]) (k_rV hC hN hK hP hD (c74_X7_partOf l G cI cJ cB cZ a1 a8 a9 a10 a11 a12 a13 a14 a15 a16 a17 a18) [1, 3] rfl (by decide) mi_X7_partOf in_X7_partOf se_X7_partOf wm_X9_136 7 1 rfl rfl rfl hl.1 rfl rfl (Nat.le_of_ble_eq_true rfl) ⟨(Nat.le_of_ble_eq_true rfl), (Nat.le_of_ble_eq_true rfl)⟩ dX9_span_52 ⟨(Nat.le_of_ble_eq_true rfl), (Nat.le_of_ble_eq_true rfl)⟩) hP hD hS hA [1, 3] [0, 2, 4, 5, 6, 7, 8, 9, 10, 11] rfl rfl (by decide) (by decide) (fun r12 u12 H locs hp hP hD hS => ?_)
      have hP : va_P G cl [(a0, .inr (9, [.ref a1, .ref a2, .ref a3, .int 0, .int 0, .ref a4, .ref a5, .ref a6, .ref a7])), (a9, .inl (cI, 2, .inl (upd (upd (fun _ => 0) 0 16) 1 16))), (a17, .inr (8, [.ref a19, .ref a20, .ref a21, .ref a22, .ref a23, .ref a24, .ref a25, .int 0])), (a3, .inr (8, [.ref a26, .ref a27, .ref a28, .ref a29, .ref a30, .ref a31, .ref a32, .int 0])), (a4, .inr (4, [.ref a1, .ref a5, .ref a35, .ref a36, .ref a37, .ref a38, .ref a39, .int 100, .int 0, .int 0, .int (-1)])), (a35, .inr (8, [.ref a40, .ref a41, .ref a42, .ref a43, .ref a44, .ref a45, .ref a46, .int 0])), (a36, .inl (cI, 7, .inl (fun _ => 0))), (a7, .inr (1, [.int 0, .int 0, .int 0, .int 0, .int 0])), (a5, .inr (0, [.ref a33, .int 1, .int 1, .long 0, .int 1, .int 0, .long 0])), (a33, .inl (cJ, 256, .inr (.inl (vp_updL (fun _ => 0) 0 0)))), (a1, .inr (7, [.int 100, .int 100, .int 0, .ref a8, .ref a9, .int 0, .ref a10, .ref a11, .ref a12, .ref a13, .ref a14, .ref a15, .ref a16, .ref a17, .ref a18])), (a8, .inl (cI, 2, .inl (upd (upd (fun _ => 0) 0 16) 1 16)))] H := hP
      have hD : va_D A [(a0, .inr (9, [.ref a1, .ref a2, .ref a3, .int 0, .int 0, .ref a4, .ref a5, .ref a6, .ref a7])), (a9, .inl (cI, 2, .inl (upd (upd (fun _ => 0) 0 16) 1 16))), (a17, .inr (8, [.ref a19, .ref a20, .ref a21, .ref a22, .ref a23, .ref a24, .ref a25, .int 0])), (a3, .inr (8, [.ref a26, .ref a27, .ref a28, .ref a29, .ref a30, .ref a31, .ref a32, .int 0])), (a4, .inr (4, [.ref a1, .ref a5, .ref a35, .ref a36, .ref a37, .ref a38, .ref a39, .int 100, .int 0, .int 0, .int (-1)])), (a35, .inr (8, [.ref a40, .ref a41, .ref a42, .ref a43, .ref a44, .ref a45, .ref a46, .int 0])), (a36, .inl (cI, 7, .inl (fun _ => 0))), (a7, .inr (1, [.int 0, .int 0, .int 0, .int 0, .int 0])), (a5, .inr (0, [.ref a33, .int 1, .int 1, .long 0, .int 1, .int 0, .long 0])), (a33, .inl (cJ, 256, .inr (.inl (vp_updL (fun _ => 0) 0 0)))), (a1, .inr (7, [.int 100, .int 100, .int 0, .ref a8, .ref a9, .int 0, .ref a10, .ref a11, .ref a12, .ref a13, .ref a14, .ref a15, .ref a16, .ref a17, .ref a18])), (a8, .inl (cI, 2, .inl (upd (upd (fun _ => 0) 0 16) 1 16)))] := hD
      subst hp
      refine k_cv (wr := [(a0, .inr (9, [.ref a1, .ref a2, .ref a3, .int 0, .int 0, .ref a4, .ref a5, .ref a6, .ref a7])), (a9, .inl (cI, 2, .inl (upd (upd (fun _ => 0) 0 16) 1 16))), (a17, .inr (8, [.ref a19, .ref a20, .ref a21, .ref a22, .ref a23, .ref a24, .ref a25, .int 0])), (a3, .inr (8, [.ref a26, .ref a27, .ref a28, .ref a29, .ref a30, .ref a31, .ref a32, .int 0])), (a4, .inr (4, [.ref a1, .ref a5, .ref a35, .ref a36, .ref a37, .ref a38, .ref a39, .int 100, .int 0, .int 0, .int (-1)])), (a35, .inr (8, [.ref a40, .ref a41, .ref a42, .ref a43, .ref a44, .ref a45, .ref a46, .int 0])), (a36, .inl (cI, 7, .inl (fun _ => 0))), (a5, .inr (0, [.ref a33, .int 1, .int 1, .long 0, .int 1, .int 0, .long 0])), (a33, .inl (cJ, 256, .inr (.inl (vp_updL (fun _ => 0) 0 0)))), (a1, .inr (7, [.int 100, .int 100, .int 0, .ref a8, .ref a9, .int 0, .ref a10, .ref a11, .ref a12, .ref a13, .ref a14, .ref a15, .ref a16, .ref a17, .ref a18])), (a8, .inl (cI, 2, .inl (upd (upd (fun _ => 0) 0 16) 1 16)))]) (k_rV hC hN hK hP hD (c83_X1_take l G cI cJ cB cZ a7) [7] rfl (by decide) mi_X1_take in_X1_take se_X1_take wm_X9_143 1 7 rfl rfl rfl hl.1 rfl rfl (Nat.le_of_ble_eq_true rfl) ⟨(Nat.le_of_ble_eq_true rfl), (Nat.le_of_ble_eq_true rfl)⟩ dX9_span_55 ⟨(Nat.le_of_ble_eq_true rfl), (Nat.le_of_ble_eq_true rfl)⟩) hP hD hS hA [7] [0, 1, 2, 3, 4, 5, 6, 8, 9, 10, 11] rfl rfl (by decide) (by decide) (fun u13 H locs hp hP hD hS => ?_)
      have hP : va_P G cl [(a0, .inr (9, [.ref a1, .ref a2, .ref a3, .int 0, .int 0, .ref a4, .ref a5, .ref a6, .ref a7])), (a9, .inl (cI, 2, .inl (upd (upd (fun _ => 0) 0 16) 1 16))), (a17, .inr (8, [.ref a19, .ref a20, .ref a21, .ref a22, .ref a23, .ref a24, .ref a25, .int 0])), (a3, .inr (8, [.ref a26, .ref a27, .ref a28, .ref a29, .ref a30, .ref a31, .ref a32, .int 0])), (a4, .inr (4, [.ref a1, .ref a5, .ref a35, .ref a36, .ref a37, .ref a38, .ref a39, .int 100, .int 0, .int 0, .int (-1)])), (a35, .inr (8, [.ref a40, .ref a41, .ref a42, .ref a43, .ref a44, .ref a45, .ref a46, .int 0])), (a36, .inl (cI, 7, .inl (fun _ => 0))), (a5, .inr (0, [.ref a33, .int 1, .int 1, .long 0, .int 1, .int 0, .long 0])), (a33, .inl (cJ, 256, .inr (.inl (vp_updL (fun _ => 0) 0 0)))), (a1, .inr (7, [.int 100, .int 100, .int 0, .ref a8, .ref a9, .int 0, .ref a10, .ref a11, .ref a12, .ref a13, .ref a14, .ref a15, .ref a16, .ref a17, .ref a18])), (a8, .inl (cI, 2, .inl (upd (upd (fun _ => 0) 0 16) 1 16))), (a7, .inr (1, [.int 1, .int 16, .int 16, .int 0, .int 0]))] H := hP
      have hD : va_D A [(a0, .inr (9, [.ref a1, .ref a2, .ref a3, .int 0, .int 0, .ref a4, .ref a5, .ref a6, .ref a7])), (a9, .inl (cI, 2, .inl (upd (upd (fun _ => 0) 0 16) 1 16))), (a17, .inr (8, [.ref a19, .ref a20, .ref a21, .ref a22, .ref a23, .ref a24, .ref a25, .int 0])), (a3, .inr (8, [.ref a26, .ref a27, .ref a28, .ref a29, .ref a30, .ref a31, .ref a32, .int 0])), (a4, .inr (4, [.ref a1, .ref a5, .ref a35, .ref a36, .ref a37, .ref a38, .ref a39, .int 100, .int 0, .int 0, .int (-1)])), (a35, .inr (8, [.ref a40, .ref a41, .ref a42, .ref a43, .ref a44, .ref a45, .ref a46, .int 0])), (a36, .inl (cI, 7, .inl (fun _ => 0))), (a5, .inr (0, [.ref a33, .int 1, .int 1, .long 0, .int 1, .int 0, .long 0])), (a33, .inl (cJ, 256, .inr (.inl (vp_updL (fun _ => 0) 0 0)))), (a1, .inr (7, [.int 100, .int 100, .int 0, .ref a8, .ref a9, .int 0, .ref a10, .ref a11, .ref a12, .ref a13, .ref a14, .ref a15, .ref a16, .ref a17, .ref a18])), (a8, .inl (cI, 2, .inl (upd (upd (fun _ => 0) 0 16) 1 16))), (a7, .inr (1, [.int 1, .int 16, .int 16, .int 0, .int 0]))] := hD
      refine lv_iinc (v := 1) (lv' := [(5, .int 1), (4, .int 1), (0, .ref a0), (1, .int 1), (2, .int x1), (3, .int x2)]) hx hb dX9_span_58 hl (k := 0) rfl (by decide +kernel) (by decide) rfl (fun ls hl => ?_)
      refine lv_goto (tgt := 27) hx hb dX9_span_61 (by decide) ?_
      refine lv_iload hx hb dX9_span_27 (lv_at hl 0 rfl) ?_
      refine lv_iload hx hb dX9_span_29 (lv_at hl 1 rfl) ?_
      refine lv_icmp_ge (tgt := 64) hx hb dX9_span_31 (by decide) (fun _ => ?_) (fun c_ => absurd (by decide +kernel) c_)
      refine lv_aload_n hx hb dX9_span_64 rfl (lv_at hl 2 rfl) ?_
      refine lv_iload hx hb dX9_span_65 (lv_at hl 1 rfl) ?_
      refine lv_iload_n hx hb dX9_span_67 rfl (lv_at hl 4 rfl) ?_
      refine k_ci (wr := [(a9, .inl (cI, 2, .inl (upd (upd (fun _ => 0) 0 16) 1 16))), (a17, .inr (8, [.ref a19, .ref a20, .ref a21, .ref a22, .ref a23, .ref a24, .ref a25, .int 0])), (a3, .inr (8, [.ref a26, .ref a27, .ref a28, .ref a29, .ref a30, .ref a31, .ref a32, .int 0])), (a4, .inr (4, [.ref a1, .ref a5, .ref a35, .ref a36, .ref a37, .ref a38, .ref a39, .int 100, .int 0, .int 0, .int (-1)])), (a35, .inr (8, [.ref a40, .ref a41, .ref a42, .ref a43, .ref a44, .ref a45, .ref a46, .int 0])), (a36, .inl (cI, 7, .inl (fun _ => 0))), (a5, .inr (0, [.ref a33, .int 1, .int 1, .long 0, .int 1, .int 0, .long 0])), (a33, .inl (cJ, 256, .inr (.inl (vp_updL (fun _ => 0) 0 0)))), (a1, .inr (7, [.int 100, .int 100, .int 0, .ref a8, .ref a9, .int 0, .ref a10, .ref a11, .ref a12, .ref a13, .ref a14, .ref a15, .ref a16, .ref a17, .ref a18])), (a8, .inl (cI, 2, .inl (upd (upd (fun _ => 0) 0 16) 1 16)))]) (k_rV hC hN hK hP hD (c85_X9_edge l G cI cJ cB cZ a0 a1 a2 a3 a4 a5 a6 a7 x1) [0, 11] rfl (by decide) mi_X9_edge in_X9_edge se_X9_edge wm_X9_146 9 0 rfl rfl rfl hl.1 rfl rfl (Nat.le_of_ble_eq_true rfl) ⟨(Nat.le_of_ble_eq_true rfl), (Nat.le_of_ble_eq_true rfl)⟩ dX9_span_68 ⟨(Nat.le_of_ble_eq_true rfl), (Nat.le_of_ble_eq_true rfl)⟩) hP hD hS hA [0, 11] [1, 2, 3, 4, 5, 6, 7, 8, 9, 10] rfl rfl (by decide) (by decide) (fun r14 u14 H locs hp hP hD hS => ?_)
      have hP : va_P G cl [(a9, .inl (cI, 2, .inl (upd (upd (fun _ => 0) 0 16) 1 16))), (a17, .inr (8, [.ref a19, .ref a20, .ref a21, .ref a22, .ref a23, .ref a24, .ref a25, .int 0])), (a3, .inr (8, [.ref a26, .ref a27, .ref a28, .ref a29, .ref a30, .ref a31, .ref a32, .int 0])), (a4, .inr (4, [.ref a1, .ref a5, .ref a35, .ref a36, .ref a37, .ref a38, .ref a39, .int 100, .int 0, .int 0, .int (-1)])), (a35, .inr (8, [.ref a40, .ref a41, .ref a42, .ref a43, .ref a44, .ref a45, .ref a46, .int 0])), (a36, .inl (cI, 7, .inl (fun _ => 0))), (a5, .inr (0, [.ref a33, .int 1, .int 1, .long 0, .int 1, .int 0, .long 0])), (a33, .inl (cJ, 256, .inr (.inl (vp_updL (fun _ => 0) 0 0)))), (a1, .inr (7, [.int 100, .int 100, .int 0, .ref a8, .ref a9, .int 0, .ref a10, .ref a11, .ref a12, .ref a13, .ref a14, .ref a15, .ref a16, .ref a17, .ref a18])), (a8, .inl (cI, 2, .inl (upd (upd (fun _ => 0) 0 16) 1 16))), (a0, .inr (9, [.ref a1, .ref a2, .ref a3, .int 0, .int 0, .ref a4, .ref a5, .ref a6, .ref a7])), (a7, .inr (1, [.int 1, .int 16, .int 16, .int 0, .int 0]))] H := hP
      have hD : va_D A [(a9, .inl (cI, 2, .inl (upd (upd (fun _ => 0) 0 16) 1 16))), (a17, .inr (8, [.ref a19, .ref a20, .ref a21, .ref a22, .ref a23, .ref a24, .ref a25, .int 0])), (a3, .inr (8, [.ref a26, .ref a27, .ref a28, .ref a29, .ref a30, .ref a31, .ref a32, .int 0])), (a4, .inr (4, [.ref a1, .ref a5, .ref a35, .ref a36, .ref a37, .ref a38, .ref a39, .int 100, .int 0, .int 0, .int (-1)])), (a35, .inr (8, [.ref a40, .ref a41, .ref a42, .ref a43, .ref a44, .ref a45, .ref a46, .int 0])), (a36, .inl (cI, 7, .inl (fun _ => 0))), (a5, .inr (0, [.ref a33, .int 1, .int 1, .long 0, .int 1, .int 0, .long 0])), (a33, .inl (cJ, 256, .inr (.inl (vp_updL (fun _ => 0) 0 0)))), (a1, .inr (7, [.int 100, .int 100, .int 0, .ref a8, .ref a9, .int 0, .ref a10, .ref a11, .ref a12, .ref a13, .ref a14, .ref a15, .ref a16, .ref a17, .ref a18])), (a8, .inl (cI, 2, .inl (upd (upd (fun _ => 0) 0 16) 1 16))), (a0, .inr (9, [.ref a1, .ref a2, .ref a3, .int 0, .int 0, .ref a4, .ref a5, .ref a6, .ref a7])), (a7, .inr (1, [.int 1, .int 16, .int 16, .int 0, .int 0]))] := hD
      subst hp
      exact k_iret hC hr hlk hK hP hD hS () [] rfl (by decide) (by first | decide | (unfold sp_span; rw [if_neg (by omega)]) | (unfold sp_span; rw [if_pos (by omega)])) (Nat.le_of_ble_eq_true rfl) (Nat.le_of_ble_eq_true rfl) dX9_span_71
    · skip
      refine lv_if_ne (tgt := 10) hx hb dX9_span_5 (by decide) (fun _ => ?_) (fun c_ => absurd c_ (by decide +kernel))
      refine lv_aload_n hx hb dX9_span_10 rfl (lv_at hl 0 rfl) ?_
      refine lv_iload_n hx hb dX9_span_11 rfl (lv_at hl 3 rfl) ?_
      refine k_ci (wr := [(a7, .inr (1, [.int 0, .int 0, .int 0, .int 0, .int 0]))]) (k_rV hC hN hK hP hD (c65_X9_known l G cI cJ cB cZ a0 a1 a2 a3 a4 a5 a6 a7 a8 a9 a10 a11 a12 a13 a14 a15 a16 a17 a18 a19 a20 a21 a22 a23 a24 a25 a26 a27 a28 a29 a30 a31 a32 a33 a34 a35 a36 a37 a38 a39 a40 a41 a42 a43 a44 a45 a46 x2) [10, 11, 0, 1, 2, 3, 4, 5, 6, 7, 8] rfl (by decide) mi_X9_known in_X9_known se_X9_known wm_X9_125 9 10 rfl rfl rfl hl.1 rfl rfl (Nat.le_of_ble_eq_true rfl) ⟨(Nat.le_of_ble_eq_true rfl), (Nat.le_of_ble_eq_true rfl)⟩ dX9_span_12 ⟨(Nat.le_of_ble_eq_true rfl), (Nat.le_of_ble_eq_true rfl)⟩) hP hD hS hA [10, 11, 0, 1, 2, 3, 4, 5, 6, 7, 8] [9] rfl rfl (by decide) (by decide) (fun r15 u15 H locs hp hP hD hS => ?_)
      have hP : va_P G cl [(a7, .inr (1, [.int 0, .int 0, .int 0, .int 0, .int 0])), (a0, .inr (9, [.ref a1, .ref a2, .ref a3, .int 0, .int 0, .ref a4, .ref a5, .ref a6, .ref a7])), (a1, .inr (7, [.int 100, .int 100, .int 0, .ref a8, .ref a9, .int 0, .ref a10, .ref a11, .ref a12, .ref a13, .ref a14, .ref a15, .ref a16, .ref a17, .ref a18])), (a9, .inl (cI, 2, .inl (upd (upd (fun _ => 0) 0 16) 1 16))), (a8, .inl (cI, 2, .inl (upd (upd (fun _ => 0) 0 16) 1 16))), (a17, .inr (8, [.ref a19, .ref a20, .ref a21, .ref a22, .ref a23, .ref a24, .ref a25, .int 0])), (a3, .inr (8, [.ref a26, .ref a27, .ref a28, .ref a29, .ref a30, .ref a31, .ref a32, .int 0])), (a5, .inr (0, [.ref a33, .int 1, .int 1, .long 0, .int 1, .int 0, .long 0])), (a4, .inr (4, [.ref a1, .ref a5, .ref a35, .ref a36, .ref a37, .ref a38, .ref a39, .int 100, .int 0, .int 0, .int (-1)])), (a35, .inr (8, [.ref a40, .ref a41, .ref a42, .ref a43, .ref a44, .ref a45, .ref a46, .int 0])), (a36, .inl (cI, 7, .inl (fun _ => 0))), (a33, .inl (cJ, 256, .inr (.inl (vp_updL (fun _ => 0) 0 0))))] H := hP
      have hD : va_D A [(a7, .inr (1, [.int 0, .int 0, .int 0, .int 0, .int 0])), (a0, .inr (9, [.ref a1, .ref a2, .ref a3, .int 0, .int 0, .ref a4, .ref a5, .ref a6, .ref a7])), (a1, .inr (7, [.int 100, .int 100, .int 0, .ref a8, .ref a9, .int 0, .ref a10, .ref a11, .ref a12, .ref a13, .ref a14, .ref a15, .ref a16, .ref a17, .ref a18])), (a9, .inl (cI, 2, .inl (upd (upd (fun _ => 0) 0 16) 1 16))), (a8, .inl (cI, 2, .inl (upd (upd (fun _ => 0) 0 16) 1 16))), (a17, .inr (8, [.ref a19, .ref a20, .ref a21, .ref a22, .ref a23, .ref a24, .ref a25, .int 0])), (a3, .inr (8, [.ref a26, .ref a27, .ref a28, .ref a29, .ref a30, .ref a31, .ref a32, .int 0])), (a5, .inr (0, [.ref a33, .int 1, .int 1, .long 0, .int 1, .int 0, .long 0])), (a4, .inr (4, [.ref a1, .ref a5, .ref a35, .ref a36, .ref a37, .ref a38, .ref a39, .int 100, .int 0, .int 0, .int (-1)])), (a35, .inr (8, [.ref a40, .ref a41, .ref a42, .ref a43, .ref a44, .ref a45, .ref a46, .int 0])), (a36, .inl (cI, 7, .inl (fun _ => 0))), (a33, .inl (cJ, 256, .inr (.inl (vp_updL (fun _ => 0) 0 0))))] := hD
      subst hp
      refine lv_istore (lv' := [(4, .int 1), (0, .ref a0), (1, .int 2), (2, .int x1), (3, .int x2)]) hx hb dX9_span_15 hl (by decide) rfl (fun ls hl => ?_)
      refine lv_aload_n hx hb dX9_span_17 rfl (lv_at hl 1 rfl) ?_
      refine k_get hC hK hP iX9 1 8 wf_X9_61 rfl (by decide) rfl rfl dX9_span_18 ?_
      refine k_cv (wr := [(a0, .inr (9, [.ref a1, .ref a2, .ref a3, .int 0, .int 0, .ref a4, .ref a5, .ref a6, .ref a7])), (a1, .inr (7, [.int 100, .int 100, .int 0, .ref a8, .ref a9, .int 0, .ref a10, .ref a11, .ref a12, .ref a13, .ref a14, .ref a15, .ref a16, .ref a17, .ref a18])), (a9, .inl (cI, 2, .inl (upd (upd (fun _ => 0) 0 16) 1 16))), (a8, .inl (cI, 2, .inl (upd (upd (fun _ => 0) 0 16) 1 16))), (a17, .inr (8, [.ref a19, .ref a20, .ref a21, .ref a22, .ref a23, .ref a24, .ref a25, .int 0])), (a3, .inr (8, [.ref a26, .ref a27, .ref a28, .ref a29, .ref a30, .ref a31, .ref a32, .int 0])), (a5, .inr (0, [.ref a33, .int 1, .int 1, .long 0, .int 1, .int 0, .long 0])), (a4, .inr (4, [.ref a1, .ref a5, .ref a35, .ref a36, .ref a37, .ref a38, .ref a39, .int 100, .int 0, .int 0, .int (-1)])), (a35, .inr (8, [.ref a40, .ref a41, .ref a42, .ref a43, .ref a44, .ref a45, .ref a46, .int 0])), (a36, .inl (cI, 7, .inl (fun _ => 0))), (a33, .inl (cJ, 256, .inr (.inl (vp_updL (fun _ => 0) 0 0))))]) (k_rV hC hN hK hP hD (c79_X1_begin l G cI cJ cB cZ a7) [0] rfl (by decide) mi_X1_begin in_X1_begin se_X1_begin wm_X9_140 1 0 rfl rfl rfl hl.1 rfl rfl (Nat.le_of_ble_eq_true rfl) ⟨(Nat.le_of_ble_eq_true rfl), (Nat.le_of_ble_eq_true rfl)⟩ dX9_span_21 ⟨(Nat.le_of_ble_eq_true rfl), (Nat.le_of_ble_eq_true rfl)⟩) hP hD hS hA [0] [1, 2, 3, 4, 5, 6, 7, 8, 9, 10, 11] rfl rfl (by decide) (by decide) (fun u16 H locs hp hP hD hS => ?_)
      have hP : va_P G cl [(a0, .inr (9, [.ref a1, .ref a2, .ref a3, .int 0, .int 0, .ref a4, .ref a5, .ref a6, .ref a7])), (a1, .inr (7, [.int 100, .int 100, .int 0, .ref a8, .ref a9, .int 0, .ref a10, .ref a11, .ref a12, .ref a13, .ref a14, .ref a15, .ref a16, .ref a17, .ref a18])), (a9, .inl (cI, 2, .inl (upd (upd (fun _ => 0) 0 16) 1 16))), (a8, .inl (cI, 2, .inl (upd (upd (fun _ => 0) 0 16) 1 16))), (a17, .inr (8, [.ref a19, .ref a20, .ref a21, .ref a22, .ref a23, .ref a24, .ref a25, .int 0])), (a3, .inr (8, [.ref a26, .ref a27, .ref a28, .ref a29, .ref a30, .ref a31, .ref a32, .int 0])), (a5, .inr (0, [.ref a33, .int 1, .int 1, .long 0, .int 1, .int 0, .long 0])), (a4, .inr (4, [.ref a1, .ref a5, .ref a35, .ref a36, .ref a37, .ref a38, .ref a39, .int 100, .int 0, .int 0, .int (-1)])), (a35, .inr (8, [.ref a40, .ref a41, .ref a42, .ref a43, .ref a44, .ref a45, .ref a46, .int 0])), (a36, .inl (cI, 7, .inl (fun _ => 0))), (a33, .inl (cJ, 256, .inr (.inl (vp_updL (fun _ => 0) 0 0)))), (a7, .inr (1, [.int 0, .int 0, .int 0, .int 0, .int 0]))] H := hP
      have hD : va_D A [(a0, .inr (9, [.ref a1, .ref a2, .ref a3, .int 0, .int 0, .ref a4, .ref a5, .ref a6, .ref a7])), (a1, .inr (7, [.int 100, .int 100, .int 0, .ref a8, .ref a9, .int 0, .ref a10, .ref a11, .ref a12, .ref a13, .ref a14, .ref a15, .ref a16, .ref a17, .ref a18])), (a9, .inl (cI, 2, .inl (upd (upd (fun _ => 0) 0 16) 1 16))), (a8, .inl (cI, 2, .inl (upd (upd (fun _ => 0) 0 16) 1 16))), (a17, .inr (8, [.ref a19, .ref a20, .ref a21, .ref a22, .ref a23, .ref a24, .ref a25, .int 0])), (a3, .inr (8, [.ref a26, .ref a27, .ref a28, .ref a29, .ref a30, .ref a31, .ref a32, .int 0])), (a5, .inr (0, [.ref a33, .int 1, .int 1, .long 0, .int 1, .int 0, .long 0])), (a4, .inr (4, [.ref a1, .ref a5, .ref a35, .ref a36, .ref a37, .ref a38, .ref a39, .int 100, .int 0, .int 0, .int (-1)])), (a35, .inr (8, [.ref a40, .ref a41, .ref a42, .ref a43, .ref a44, .ref a45, .ref a46, .int 0])), (a36, .inl (cI, 7, .inl (fun _ => 0))), (a33, .inl (cJ, 256, .inr (.inl (vp_updL (fun _ => 0) 0 0)))), (a7, .inr (1, [.int 0, .int 0, .int 0, .int 0, .int 0]))] := hD
      refine lv_iconst (v := 0) hx hb dX9_span_24 (by decide) ?_
      refine lv_istore (lv' := [(5, .int 0), (4, .int 1), (0, .ref a0), (1, .int 2), (2, .int x1), (3, .int x2)]) hx hb dX9_span_25 hl (by decide) rfl (fun ls hl => ?_)
      refine lv_iload hx hb dX9_span_27 (lv_at hl 0 rfl) ?_
      refine lv_iload hx hb dX9_span_29 (lv_at hl 1 rfl) ?_
      refine lv_icmp_ge (tgt := 64) hx hb dX9_span_31 (by decide) (fun c_ => absurd c_ (by decide +kernel)) (fun _ => ?_)
      refine lv_aload_n hx hb dX9_span_34 rfl (lv_at hl 2 rfl) ?_
      refine k_get hC hK hP iX9 0 8 wf_X9_61 rfl (by decide) rfl rfl dX9_span_35 ?_
      refine lv_aload_n hx hb dX9_span_38 rfl (lv_at hl 2 rfl) ?_
      refine k_get hC hK hP iX9 0 0 wf_X9_10 rfl (by decide) rfl rfl dX9_span_39 ?_
      refine lv_aload_n hx hb dX9_span_42 rfl (lv_at hl 2 rfl) ?_
      refine k_get hC hK hP iX9 0 6 wf_X9_50 rfl (by decide) rfl rfl dX9_span_43 ?_
      refine lv_iload hx hb dX9_span_46 (lv_at hl 0 rfl) ?_
      refine k_cl (wr := [(a0, .inr (9, [.ref a1, .ref a2, .ref a3, .int 0, .int 0, .ref a4, .ref a5, .ref a6, .ref a7])), (a1, .inr (7, [.int 100, .int 100, .int 0, .ref a8, .ref a9, .int 0, .ref a10, .ref a11, .ref a12, .ref a13, .ref a14, .ref a15, .ref a16, .ref a17, .ref a18])), (a9, .inl (cI, 2, .inl (upd (upd (fun _ => 0) 0 16) 1 16))), (a8, .inl (cI, 2, .inl (upd (upd (fun _ => 0) 0 16) 1 16))), (a17, .inr (8, [.ref a19, .ref a20, .ref a21, .ref a22, .ref a23, .ref a24, .ref a25, .int 0])), (a3, .inr (8, [.ref a26, .ref a27, .ref a28, .ref a29, .ref a30, .ref a31, .ref a32, .int 0])), (a4, .inr (4, [.ref a1, .ref a5, .ref a35, .ref a36, .ref a37, .ref a38, .ref a39, .int 100, .int 0, .int 0, .int (-1)])), (a35, .inr (8, [.ref a40, .ref a41, .ref a42, .ref a43, .ref a44, .ref a45, .ref a46, .int 0])), (a36, .inl (cI, 7, .inl (fun _ => 0))), (a7, .inr (1, [.int 0, .int 0, .int 0, .int 0, .int 0]))]) (k_rV hC hN hK hP hD (c68_X0_row l G cI cJ cB cZ a5 a33) [6, 10] rfl (by decide) mi_X0_row in_X0_row se_X0_row wm_X9_132 0 6 rfl rfl rfl hl.1 rfl rfl (Nat.le_of_ble_eq_true rfl) ⟨(Nat.le_of_ble_eq_true rfl), (Nat.le_of_ble_eq_true rfl)⟩ dX9_span_48 ⟨(Nat.le_of_ble_eq_true rfl), (Nat.le_of_ble_eq_true rfl)⟩) hP hD hS hA [6, 10] [0, 1, 2, 3, 4, 5, 7, 8, 9, 11] rfl rfl (by decide) (by decide) (fun r17 u17 H locs hp hP hD hS => ?_)
      have hP : va_P G cl [(a0, .inr (9, [.ref a1, .ref a2, .ref a3, .int 0, .int 0, .ref a4, .ref a5, .ref a6, .ref a7])), (a1, .inr (7, [.int 100, .int 100, .int 0, .ref a8, .ref a9, .int 0, .ref a10, .ref a11, .ref a12, .ref a13, .ref a14, .ref a15, .ref a16, .ref a17, .ref a18])), (a9, .inl (cI, 2, .inl (upd (upd (fun _ => 0) 0 16) 1 16))), (a8, .inl (cI, 2, .inl (upd (upd (fun _ => 0) 0 16) 1 16))), (a17, .inr (8, [.ref a19, .ref a20, .ref a21, .ref a22, .ref a23, .ref a24, .ref a25, .int 0])), (a3, .inr (8, [.ref a26, .ref a27, .ref a28, .ref a29, .ref a30, .ref a31, .ref a32, .int 0])), (a4, .inr (4, [.ref a1, .ref a5, .ref a35, .ref a36, .ref a37, .ref a38, .ref a39, .int 100, .int 0, .int 0, .int (-1)])), (a35, .inr (8, [.ref a40, .ref a41, .ref a42, .ref a43, .ref a44, .ref a45, .ref a46, .int 0])), (a36, .inl (cI, 7, .inl (fun _ => 0))), (a7, .inr (1, [.int 0, .int 0, .int 0, .int 0, .int 0])), (a5, .inr (0, [.ref a33, .int 1, .int 1, .long 0, .int 1, .int 0, .long 0])), (a33, .inl (cJ, 256, .inr (.inl (vp_updL (fun _ => 0) 0 0))))] H := hP
      have hD : va_D A [(a0, .inr (9, [.ref a1, .ref a2, .ref a3, .int 0, .int 0, .ref a4, .ref a5, .ref a6, .ref a7])), (a1, .inr (7, [.int 100, .int 100, .int 0, .ref a8, .ref a9, .int 0, .ref a10, .ref a11, .ref a12, .ref a13, .ref a14, .ref a15, .ref a16, .ref a17, .ref a18])), (a9, .inl (cI, 2, .inl (upd (upd (fun _ => 0) 0 16) 1 16))), (a8, .inl (cI, 2, .inl (upd (upd (fun _ => 0) 0 16) 1 16))), (a17, .inr (8, [.ref a19, .ref a20, .ref a21, .ref a22, .ref a23, .ref a24, .ref a25, .int 0])), (a3, .inr (8, [.ref a26, .ref a27, .ref a28, .ref a29, .ref a30, .ref a31, .ref a32, .int 0])), (a4, .inr (4, [.ref a1, .ref a5, .ref a35, .ref a36, .ref a37, .ref a38, .ref a39, .int 100, .int 0, .int 0, .int (-1)])), (a35, .inr (8, [.ref a40, .ref a41, .ref a42, .ref a43, .ref a44, .ref a45, .ref a46, .int 0])), (a36, .inl (cI, 7, .inl (fun _ => 0))), (a7, .inr (1, [.int 0, .int 0, .int 0, .int 0, .int 0])), (a5, .inr (0, [.ref a33, .int 1, .int 1, .long 0, .int 1, .int 0, .long 0])), (a33, .inl (cJ, 256, .inr (.inl (vp_updL (fun _ => 0) 0 0))))] := hD
      subst hp
      refine lv_iload_n hx hb dX9_span_51 rfl (lv_at hl 3 rfl) ?_
      refine k_ci (wr := [(a0, .inr (9, [.ref a1, .ref a2, .ref a3, .int 0, .int 0, .ref a4, .ref a5, .ref a6, .ref a7])), (a9, .inl (cI, 2, .inl (upd (upd (fun _ => 0) 0 16) 1 16))), (a17, .inr (8, [.ref a19, .ref a20, .ref a21, .ref a22, .ref a23, .ref a24, .ref a25, .int 0])), (a3, .inr (8, [.ref a26, .ref a27, .ref a28, .ref a29, .ref a30, .ref a31, .ref a32, .int 0])), (a4, .inr (4, [.ref a1, .ref a5, .ref a35, .ref a36, .ref a37, .ref a38, .ref a39, .int 100, .int 0, .int 0, .int (-1)])), (a35, .inr (8, [.ref a40, .ref a41, .ref a42, .ref a43, .ref a44, .ref a45, .ref a46, .int 0])), (a36, .inl (cI, 7, .inl (fun _ => 0))), (a7, .inr (1, [.int 0, .int 0, .int 0, .int 0, .int 0])), (a5, .inr (0, [.ref a33, .int 1, .int 1, .long 0, .int 1, .int 0, .long 0])), (a33, .inl (cJ, 256, .inr (.inl (vp_updL (fun _ => 0) 0 0))))]) (k_rV hC hN hK hP hD (c77_X7_partOf l G cI cJ cB cZ a1 a8 a9 a10 a11 a12 a13 a14 a15 a16 a17 a18) [1, 3] rfl (by decide) mi_X7_partOf in_X7_partOf se_X7_partOf wm_X9_136 7 1 rfl rfl rfl hl.1 rfl rfl (Nat.le_of_ble_eq_true rfl) ⟨(Nat.le_of_ble_eq_true rfl), (Nat.le_of_ble_eq_true rfl)⟩ dX9_span_52 ⟨(Nat.le_of_ble_eq_true rfl), (Nat.le_of_ble_eq_true rfl)⟩) hP hD hS hA [1, 3] [0, 2, 4, 5, 6, 7, 8, 9, 10, 11] rfl rfl (by decide) (by decide) (fun r18 u18 H locs hp hP hD hS => ?_)
      have hP : va_P G cl [(a0, .inr (9, [.ref a1, .ref a2, .ref a3, .int 0, .int 0, .ref a4, .ref a5, .ref a6, .ref a7])), (a9, .inl (cI, 2, .inl (upd (upd (fun _ => 0) 0 16) 1 16))), (a17, .inr (8, [.ref a19, .ref a20, .ref a21, .ref a22, .ref a23, .ref a24, .ref a25, .int 0])), (a3, .inr (8, [.ref a26, .ref a27, .ref a28, .ref a29, .ref a30, .ref a31, .ref a32, .int 0])), (a4, .inr (4, [.ref a1, .ref a5, .ref a35, .ref a36, .ref a37, .ref a38, .ref a39, .int 100, .int 0, .int 0, .int (-1)])), (a35, .inr (8, [.ref a40, .ref a41, .ref a42, .ref a43, .ref a44, .ref a45, .ref a46, .int 0])), (a36, .inl (cI, 7, .inl (fun _ => 0))), (a7, .inr (1, [.int 0, .int 0, .int 0, .int 0, .int 0])), (a5, .inr (0, [.ref a33, .int 1, .int 1, .long 0, .int 1, .int 0, .long 0])), (a33, .inl (cJ, 256, .inr (.inl (vp_updL (fun _ => 0) 0 0)))), (a1, .inr (7, [.int 100, .int 100, .int 0, .ref a8, .ref a9, .int 0, .ref a10, .ref a11, .ref a12, .ref a13, .ref a14, .ref a15, .ref a16, .ref a17, .ref a18])), (a8, .inl (cI, 2, .inl (upd (upd (fun _ => 0) 0 16) 1 16)))] H := hP
      have hD : va_D A [(a0, .inr (9, [.ref a1, .ref a2, .ref a3, .int 0, .int 0, .ref a4, .ref a5, .ref a6, .ref a7])), (a9, .inl (cI, 2, .inl (upd (upd (fun _ => 0) 0 16) 1 16))), (a17, .inr (8, [.ref a19, .ref a20, .ref a21, .ref a22, .ref a23, .ref a24, .ref a25, .int 0])), (a3, .inr (8, [.ref a26, .ref a27, .ref a28, .ref a29, .ref a30, .ref a31, .ref a32, .int 0])), (a4, .inr (4, [.ref a1, .ref a5, .ref a35, .ref a36, .ref a37, .ref a38, .ref a39, .int 100, .int 0, .int 0, .int (-1)])), (a35, .inr (8, [.ref a40, .ref a41, .ref a42, .ref a43, .ref a44, .ref a45, .ref a46, .int 0])), (a36, .inl (cI, 7, .inl (fun _ => 0))), (a7, .inr (1, [.int 0, .int 0, .int 0, .int 0, .int 0])), (a5, .inr (0, [.ref a33, .int 1, .int 1, .long 0, .int 1, .int 0, .long 0])), (a33, .inl (cJ, 256, .inr (.inl (vp_updL (fun _ => 0) 0 0)))), (a1, .inr (7, [.int 100, .int 100, .int 0, .ref a8, .ref a9, .int 0, .ref a10, .ref a11, .ref a12, .ref a13, .ref a14, .ref a15, .ref a16, .ref a17, .ref a18])), (a8, .inl (cI, 2, .inl (upd (upd (fun _ => 0) 0 16) 1 16)))] := hD
      subst hp
      refine k_cv (wr := [(a0, .inr (9, [.ref a1, .ref a2, .ref a3, .int 0, .int 0, .ref a4, .ref a5, .ref a6, .ref a7])), (a9, .inl (cI, 2, .inl (upd (upd (fun _ => 0) 0 16) 1 16))), (a17, .inr (8, [.ref a19, .ref a20, .ref a21, .ref a22, .ref a23, .ref a24, .ref a25, .int 0])), (a3, .inr (8, [.ref a26, .ref a27, .ref a28, .ref a29, .ref a30, .ref a31, .ref a32, .int 0])), (a4, .inr (4, [.ref a1, .ref a5, .ref a35, .ref a36, .ref a37, .ref a38, .ref a39, .int 100, .int 0, .int 0, .int (-1)])), (a35, .inr (8, [.ref a40, .ref a41, .ref a42, .ref a43, .ref a44, .ref a45, .ref a46, .int 0])), (a36, .inl (cI, 7, .inl (fun _ => 0))), (a5, .inr (0, [.ref a33, .int 1, .int 1, .long 0, .int 1, .int 0, .long 0])), (a33, .inl (cJ, 256, .inr (.inl (vp_updL (fun _ => 0) 0 0)))), (a1, .inr (7, [.int 100, .int 100, .int 0, .ref a8, .ref a9, .int 0, .ref a10, .ref a11, .ref a12, .ref a13, .ref a14, .ref a15, .ref a16, .ref a17, .ref a18])), (a8, .inl (cI, 2, .inl (upd (upd (fun _ => 0) 0 16) 1 16)))]) (k_rV hC hN hK hP hD (c83_X1_take l G cI cJ cB cZ a7) [7] rfl (by decide) mi_X1_take in_X1_take se_X1_take wm_X9_143 1 7 rfl rfl rfl hl.1 rfl rfl (Nat.le_of_ble_eq_true rfl) ⟨(Nat.le_of_ble_eq_true rfl), (Nat.le_of_ble_eq_true rfl)⟩ dX9_span_55 ⟨(Nat.le_of_ble_eq_true rfl), (Nat.le_of_ble_eq_true rfl)⟩) hP hD hS hA [7] [0, 1, 2, 3, 4, 5, 6, 8, 9, 10, 11] rfl rfl (by decide) (by decide) (fun u19 H locs hp hP hD hS => ?_)
      have hP : va_P G cl [(a0, .inr (9, [.ref a1, .ref a2, .ref a3, .int 0, .int 0, .ref a4, .ref a5, .ref a6, .ref a7])), (a9, .inl (cI, 2, .inl (upd (upd (fun _ => 0) 0 16) 1 16))), (a17, .inr (8, [.ref a19, .ref a20, .ref a21, .ref a22, .ref a23, .ref a24, .ref a25, .int 0])), (a3, .inr (8, [.ref a26, .ref a27, .ref a28, .ref a29, .ref a30, .ref a31, .ref a32, .int 0])), (a4, .inr (4, [.ref a1, .ref a5, .ref a35, .ref a36, .ref a37, .ref a38, .ref a39, .int 100, .int 0, .int 0, .int (-1)])), (a35, .inr (8, [.ref a40, .ref a41, .ref a42, .ref a43, .ref a44, .ref a45, .ref a46, .int 0])), (a36, .inl (cI, 7, .inl (fun _ => 0))), (a5, .inr (0, [.ref a33, .int 1, .int 1, .long 0, .int 1, .int 0, .long 0])), (a33, .inl (cJ, 256, .inr (.inl (vp_updL (fun _ => 0) 0 0)))), (a1, .inr (7, [.int 100, .int 100, .int 0, .ref a8, .ref a9, .int 0, .ref a10, .ref a11, .ref a12, .ref a13, .ref a14, .ref a15, .ref a16, .ref a17, .ref a18])), (a8, .inl (cI, 2, .inl (upd (upd (fun _ => 0) 0 16) 1 16))), (a7, .inr (1, [.int 1, .int 16, .int 16, .int 0, .int 0]))] H := hP
      have hD : va_D A [(a0, .inr (9, [.ref a1, .ref a2, .ref a3, .int 0, .int 0, .ref a4, .ref a5, .ref a6, .ref a7])), (a9, .inl (cI, 2, .inl (upd (upd (fun _ => 0) 0 16) 1 16))), (a17, .inr (8, [.ref a19, .ref a20, .ref a21, .ref a22, .ref a23, .ref a24, .ref a25, .int 0])), (a3, .inr (8, [.ref a26, .ref a27, .ref a28, .ref a29, .ref a30, .ref a31, .ref a32, .int 0])), (a4, .inr (4, [.ref a1, .ref a5, .ref a35, .ref a36, .ref a37, .ref a38, .ref a39, .int 100, .int 0, .int 0, .int (-1)])), (a35, .inr (8, [.ref a40, .ref a41, .ref a42, .ref a43, .ref a44, .ref a45, .ref a46, .int 0])), (a36, .inl (cI, 7, .inl (fun _ => 0))), (a5, .inr (0, [.ref a33, .int 1, .int 1, .long 0, .int 1, .int 0, .long 0])), (a33, .inl (cJ, 256, .inr (.inl (vp_updL (fun _ => 0) 0 0)))), (a1, .inr (7, [.int 100, .int 100, .int 0, .ref a8, .ref a9, .int 0, .ref a10, .ref a11, .ref a12, .ref a13, .ref a14, .ref a15, .ref a16, .ref a17, .ref a18])), (a8, .inl (cI, 2, .inl (upd (upd (fun _ => 0) 0 16) 1 16))), (a7, .inr (1, [.int 1, .int 16, .int 16, .int 0, .int 0]))] := hD
      refine lv_iinc (v := 1) (lv' := [(5, .int 1), (4, .int 1), (0, .ref a0), (1, .int 2), (2, .int x1), (3, .int x2)]) hx hb dX9_span_58 hl (k := 0) rfl (by decide +kernel) (by decide) rfl (fun ls hl => ?_)
      refine lv_goto (tgt := 27) hx hb dX9_span_61 (by decide) ?_
      refine lv_iload hx hb dX9_span_27 (lv_at hl 0 rfl) ?_
      refine lv_iload hx hb dX9_span_29 (lv_at hl 1 rfl) ?_
      refine lv_icmp_ge (tgt := 64) hx hb dX9_span_31 (by decide) (fun _ => ?_) (fun c_ => absurd (by decide +kernel) c_)
      refine lv_aload_n hx hb dX9_span_64 rfl (lv_at hl 2 rfl) ?_
      refine lv_iload hx hb dX9_span_65 (lv_at hl 1 rfl) ?_
      refine lv_iload_n hx hb dX9_span_67 rfl (lv_at hl 4 rfl) ?_
      refine k_ci (wr := [(a9, .inl (cI, 2, .inl (upd (upd (fun _ => 0) 0 16) 1 16))), (a17, .inr (8, [.ref a19, .ref a20, .ref a21, .ref a22, .ref a23, .ref a24, .ref a25, .int 0])), (a3, .inr (8, [.ref a26, .ref a27, .ref a28, .ref a29, .ref a30, .ref a31, .ref a32, .int 0])), (a4, .inr (4, [.ref a1, .ref a5, .ref a35, .ref a36, .ref a37, .ref a38, .ref a39, .int 100, .int 0, .int 0, .int (-1)])), (a35, .inr (8, [.ref a40, .ref a41, .ref a42, .ref a43, .ref a44, .ref a45, .ref a46, .int 0])), (a36, .inl (cI, 7, .inl (fun _ => 0))), (a5, .inr (0, [.ref a33, .int 1, .int 1, .long 0, .int 1, .int 0, .long 0])), (a33, .inl (cJ, 256, .inr (.inl (vp_updL (fun _ => 0) 0 0)))), (a1, .inr (7, [.int 100, .int 100, .int 0, .ref a8, .ref a9, .int 0, .ref a10, .ref a11, .ref a12, .ref a13, .ref a14, .ref a15, .ref a16, .ref a17, .ref a18])), (a8, .inl (cI, 2, .inl (upd (upd (fun _ => 0) 0 16) 1 16)))]) (k_rV hC hN hK hP hD (c85_X9_edge l G cI cJ cB cZ a0 a1 a2 a3 a4 a5 a6 a7 x1) [0, 11] rfl (by decide) mi_X9_edge in_X9_edge se_X9_edge wm_X9_146 9 0 rfl rfl rfl hl.1 rfl rfl (Nat.le_of_ble_eq_true rfl) ⟨(Nat.le_of_ble_eq_true rfl), (Nat.le_of_ble_eq_true rfl)⟩ dX9_span_68 ⟨(Nat.le_of_ble_eq_true rfl), (Nat.le_of_ble_eq_true rfl)⟩) hP hD hS hA [0, 11] [1, 2, 3, 4, 5, 6, 7, 8, 9, 10] rfl rfl (by decide) (by decide) (fun r20 u20 H locs hp hP hD hS => ?_)
      have hP : va_P G cl [(a9, .inl (cI, 2, .inl (upd (upd (fun _ => 0) 0 16) 1 16))), (a17, .inr (8, [.ref a19, .ref a20, .ref a21, .ref a22, .ref a23, .ref a24, .ref a25, .int 0])), (a3, .inr (8, [.ref a26, .ref a27, .ref a28, .ref a29, .ref a30, .ref a31, .ref a32, .int 0])), (a4, .inr (4, [.ref a1, .ref a5, .ref a35, .ref a36, .ref a37, .ref a38, .ref a39, .int 100, .int 0, .int 0, .int (-1)])), (a35, .inr (8, [.ref a40, .ref a41, .ref a42, .ref a43, .ref a44, .ref a45, .ref a46, .int 0])), (a36, .inl (cI, 7, .inl (fun _ => 0))), (a5, .inr (0, [.ref a33, .int 1, .int 1, .long 0, .int 1, .int 0, .long 0])), (a33, .inl (cJ, 256, .inr (.inl (vp_updL (fun _ => 0) 0 0)))), (a1, .inr (7, [.int 100, .int 100, .int 0, .ref a8, .ref a9, .int 0, .ref a10, .ref a11, .ref a12, .ref a13, .ref a14, .ref a15, .ref a16, .ref a17, .ref a18])), (a8, .inl (cI, 2, .inl (upd (upd (fun _ => 0) 0 16) 1 16))), (a0, .inr (9, [.ref a1, .ref a2, .ref a3, .int 0, .int 0, .ref a4, .ref a5, .ref a6, .ref a7])), (a7, .inr (1, [.int 1, .int 16, .int 16, .int 0, .int 0]))] H := hP
      have hD : va_D A [(a9, .inl (cI, 2, .inl (upd (upd (fun _ => 0) 0 16) 1 16))), (a17, .inr (8, [.ref a19, .ref a20, .ref a21, .ref a22, .ref a23, .ref a24, .ref a25, .int 0])), (a3, .inr (8, [.ref a26, .ref a27, .ref a28, .ref a29, .ref a30, .ref a31, .ref a32, .int 0])), (a4, .inr (4, [.ref a1, .ref a5, .ref a35, .ref a36, .ref a37, .ref a38, .ref a39, .int 100, .int 0, .int 0, .int (-1)])), (a35, .inr (8, [.ref a40, .ref a41, .ref a42, .ref a43, .ref a44, .ref a45, .ref a46, .int 0])), (a36, .inl (cI, 7, .inl (fun _ => 0))), (a5, .inr (0, [.ref a33, .int 1, .int 1, .long 0, .int 1, .int 0, .long 0])), (a33, .inl (cJ, 256, .inr (.inl (vp_updL (fun _ => 0) 0 0)))), (a1, .inr (7, [.int 100, .int 100, .int 0, .ref a8, .ref a9, .int 0, .ref a10, .ref a11, .ref a12, .ref a13, .ref a14, .ref a15, .ref a16, .ref a17, .ref a18])), (a8, .inl (cI, 2, .inl (upd (upd (fun _ => 0) 0 16) 1 16))), (a0, .inr (9, [.ref a1, .ref a2, .ref a3, .int 0, .int 0, .ref a4, .ref a5, .ref a6, .ref a7])), (a7, .inr (1, [.int 1, .int 16, .int 16, .int 0, .int 0]))] := hD
      subst hp
      exact k_iret hC hr hlk hK hP hD hS () [] rfl (by decide) (by first | decide | (unfold sp_span; rw [if_neg (by omega)]) | (unfold sp_span; rw [if_pos (by omega)])) (Nat.le_of_ble_eq_true rfl) (Nat.le_of_ble_eq_true rfl) dX9_span_71
  · skip
    refine lv_if_ne (tgt := 10) hx hb dX9_span_5 (by decide) (fun c_ => absurd (by decide +kernel) c_) (fun _ => ?_)
    refine lv_iconst (v := (-1)) hx hb dX9_span_8 (by decide) ?_
    exact k_iret hC hr hlk hK hP hD hS () [] rfl (by decide) (by first | decide | (unfold sp_span; rw [if_neg (by omega)]) | (unfold sp_span; rw [if_pos (by omega)])) (Nat.le_of_ble_eq_true rfl) (Nat.le_of_ble_eq_true rfl) dX9_span_9
theorem dX9_isStone_0 : decode cX9_isStone 0 = .ok (.iload_n 1, 1) := by decide +kernel
theorem dX9_isStone_1 : decode cX9_isStone 1 = .ok (.ifCond .lt 18, 3) := by decide +kernel
theorem dX9_isStone_19 : decode cX9_isStone 19 = .ok (.iconst 0, 1) := by decide +kernel
theorem dX9_isStone_20 : decode cX9_isStone 20 = .ok (.ireturn, 1) := by decide +kernel
theorem dX9_isStone_4 : decode cX9_isStone 4 = .ok (.iload_n 1, 1) := by decide +kernel
theorem dX9_isStone_5 : decode cX9_isStone 5 = .ok (.aload_n 0, 1) := by decide +kernel
theorem dX9_isStone_6 : decode cX9_isStone 6 = .ok (.getfield 10, 3) := by decide +kernel
theorem dX9_isStone_9 : decode cX9_isStone 9 = .ok (.getfield 171, 3) := by decide +kernel
theorem dX9_isStone_12 : decode cX9_isStone 12 = .ok (.if_icmp .ge 7, 3) := by decide +kernel
set_option maxHeartbeats 4000000 in
set_option maxRecDepth 100000 in
theorem c87_X9_isStone (l : Launch) (G : va_G) (cI cJ cB cZ : ClassId) (a0 a1 a2 a3 a4 a5 a6 a7 a8 a9 a10 a11 a12 a13 a14 a15 a16 a17 a18 : Nat) (x0 : Int32) : Con l G (TY cI cJ cB cZ) yX9_isStone cX9_isStone 2 (some .boolean) ({ frames := 0, cells := 0, slots := 0, locals := 0 } : Room) [.ref a0, .int x0] [(a0, .inr (9, [.ref a1, .ref a2, .ref a3, .int 0, .int 0, .ref a4, .ref a5, .ref a6, .ref a7])), (a1, .inr (7, [.int 100, .int 100, .int 0, .ref a8, .ref a9, .int 0, .ref a10, .ref a11, .ref a12, .ref a13, .ref a14, .ref a15, .ref a16, .ref a17, .ref a18]))] (QI G (TY cI cJ cB cZ) (fun (r : Int32) (u : Unit) => r = 0) (fun u : Unit => [(a0, .inr (9, [.ref a1, .ref a2, .ref a3, .int 0, .int 0, .ref a4, .ref a5, .ref a6, .ref a7])), (a1, .inr (7, [.int 100, .int 100, .int 0, .ref a8, .ref a9, .int 0, .ref a10, .ref a11, .ref a12, .ref a13, .ref a14, .ref a15, .ref a16, .ref a17, .ref a18]))])) := by
  refine k_met (by decide) (Nat.le_of_ble_eq_true rfl) ?_
  intro p e s m below meth c A ls hC hr hlk hnm hN hK hA hP hD hS hl
  have hl : lv_has ls 2 [(0, .ref a0), (1, .int x0)] := hl
  obtain ⟨hx, hb, hml, hown, hts⟩ := id hC
  refine lv_iload_n hx hb dX9_isStone_0 rfl (lv_at hl 1 rfl) ?_
  refine lv_if_lt (tgt := 19) hx hb dX9_isStone_1 (by decide) (fun c_1 => ?_) (fun c_1 => ?_)
  · have d_1 : x0.toInt < 0 := (fa_lt _ _).mp c_1
    refine lv_iconst (v := 0) hx hb dX9_isStone_19 (by decide) ?_
    exact k_zret hC hr hlk hK hP hD hS () [0, 1] rfl (by decide) rfl rfl (Nat.le_of_ble_eq_true rfl) (Nat.le_of_ble_eq_true rfl) dX9_isStone_20
  · have d_1 : 0 ≤ x0.toInt := fa_nlt c_1
    refine lv_iload_n hx hb dX9_isStone_4 rfl (lv_at hl 1 rfl) ?_
    refine lv_aload_n hx hb dX9_isStone_5 rfl (lv_at hl 0 rfl) ?_
    refine k_get hC hK hP iX9 0 0 wf_X9_10 rfl (by decide) rfl rfl dX9_isStone_6 ?_
    refine k_getN hC hN hK hP iX7 1 5 wf_X9_171 rfl (by decide) rfl rfl dX9_isStone_9 ?_
    refine lv_icmp_ge (tgt := 19) hx hb dX9_isStone_12 (by decide) (fun c_2 => ?_) (fun c_2 => by have d_2 : x0.toInt < 0 := fa_nle c_2; omega)
    have d_2 : 0 ≤ x0.toInt := (fa_le _ _).mp c_2
    refine lv_iconst (v := 0) hx hb dX9_isStone_19 (by decide) ?_
    exact k_zret hC hr hlk hK hP hD hS () [0, 1] rfl (by decide) rfl rfl (Nat.le_of_ble_eq_true rfl) (Nat.le_of_ble_eq_true rfl) dX9_isStone_20
theorem dX9_isFalse_0 : decode cX9_isFalse 0 = .ok (.aload_n 0, 1) := by decide +kernel
theorem dX9_isFalse_1 : decode cX9_isFalse 1 = .ok (.iload_n 1, 1) := by decide +kernel
theorem dX9_isFalse_2 : decode cX9_isFalse 2 = .ok (.invokevirtual 150, 3) := by decide +kernel
set_option maxRecDepth 100000 in
theorem wm_X9_150 : Cond.methodLink RX9 150 yX9_isStone ∈ gw := gm (List.mem_of_getElem? (i := 986) (by decide +kernel)) rfl
set_option maxRecDepth 100000 in
theorem mi_X9_isStone : MI yX9_isStone cX9_isStone 2 (some .boolean) 1 := ⟨gm (List.mem_of_getElem? (i := 989) rfl) rfl, gm (List.mem_of_getElem? (i := 112) (by decide +kernel)) rfl, by decide, by decide, by decide +kernel⟩
set_option maxRecDepth 100000 in
theorem in_X9_isStone : Cond.instanceMethod yX9_isStone ∈ gw := gm (List.mem_of_getElem? (i := 988) (by decide +kernel)) rfl
set_option maxRecDepth 100000 in
theorem se_X9_isStone : Cond.selects yX9_isStone.cls yX9_isStone yX9_isStone ∈ gw := gm (List.mem_of_getElem? (i := 37) (by decide +kernel)) rfl
theorem dX9_isFalse_5 : decode cX9_isFalse 5 = .ok (.ifCond .ne 5, 3) := by decide +kernel
theorem dX9_isFalse_8 : decode cX9_isFalse 8 = .ok (.iconst (-1), 1) := by decide +kernel
theorem dX9_isFalse_9 : decode cX9_isFalse 9 = .ok (.ireturn, 1) := by decide +kernel
set_option maxHeartbeats 4000000 in
set_option maxRecDepth 100000 in
theorem c88_X9_isFalse (l : Launch) (G : va_G) (cI cJ cB cZ : ClassId) (a0 a1 a2 a3 a4 a5 a6 a7 a8 a9 a10 a11 a12 a13 a14 a15 a16 a17 a18 : Nat) (x0 : Int32) (x1 : Int32) : Con l G (TY cI cJ cB cZ) yX9_isFalse cX9_isFalse 4 (some .int) ({ frames := 1, cells := 0, slots := 0, locals := 21 } : Room) [.ref a0, .int x0, .int x1] [(a0, .inr (9, [.ref a1, .ref a2, .ref a3, .int 0, .int 0, .ref a4, .ref a5, .ref a6, .ref a7])), (a1, .inr (7, [.int 100, .int 100, .int 0, .ref a8, .ref a9, .int 0, .ref a10, .ref a11, .ref a12, .ref a13, .ref a14, .ref a15, .ref a16, .ref a17, .ref a18]))] (QI G (TY cI cJ cB cZ) (fun (r : Int32) (u : Unit) => r = (-1)) (fun u : Unit => [])) := by
  refine k_met (by decide) (Nat.le_of_ble_eq_true rfl) ?_
  intro p e s m below meth c A ls hC hr hlk hnm hN hK hA hP hD hS hl
  have hl : lv_has ls 4 [(0, .ref a0), (1, .int x0), (2, .int x1)] := hl
  obtain ⟨hx, hb, hml, hown, hts⟩ := id hC
  refine lv_aload_n hx hb dX9_isFalse_0 rfl (lv_at hl 0 rfl) ?_
  refine lv_iload_n hx hb dX9_isFalse_1 rfl (lv_at hl 1 rfl) ?_
  refine k_ci (wr := []) (k_rV hC hN hK hP hD (c87_X9_isStone l G cI cJ cB cZ a0 a1 a2 a3 a4 a5 a6 a7 a8 a9 a10 a11 a12 a13 a14 a15 a16 a17 a18 x0) [0, 1] rfl (by decide) mi_X9_isStone in_X9_isStone se_X9_isStone wm_X9_150 9 0 rfl rfl rfl hl.1 rfl rfl (Nat.le_of_ble_eq_true rfl) ⟨(Nat.le_of_ble_eq_true rfl), (Nat.le_of_ble_eq_true rfl)⟩ dX9_isFalse_2 ⟨(Nat.le_of_ble_eq_true rfl), (Nat.le_of_ble_eq_true rfl)⟩) hP hD hS hA [0, 1] [] rfl rfl (by decide) (by decide) (fun r1 u1 H locs hp hP hD hS => ?_)
  have hP : va_P G cl [(a0, .inr (9, [.ref a1, .ref a2, .ref a3, .int 0, .int 0, .ref a4, .ref a5, .ref a6, .ref a7])), (a1, .inr (7, [.int 100, .int 100, .int 0, .ref a8, .ref a9, .int 0, .ref a10, .ref a11, .ref a12, .ref a13, .ref a14, .ref a15, .ref a16, .ref a17, .ref a18]))] H := hP
  have hD : va_D A [(a0, .inr (9, [.ref a1, .ref a2, .ref a3, .int 0, .int 0, .ref a4, .ref a5, .ref a6, .ref a7])), (a1, .inr (7, [.int 100, .int 100, .int 0, .ref a8, .ref a9, .int 0, .ref a10, .ref a11, .ref a12, .ref a13, .ref a14, .ref a15, .ref a16, .ref a17, .ref a18]))] := hD
  subst hp
  refine lv_if_ne (tgt := 10) hx hb dX9_isFalse_5 (by decide) (fun c_ => absurd (by decide +kernel) c_) (fun _ => ?_)
  refine lv_iconst (v := (-1)) hx hb dX9_isFalse_8 (by decide) ?_
  exact k_iret hC hr hlk hK hP hD hS () [] rfl (by decide) rfl (Nat.le_of_ble_eq_true rfl) (Nat.le_of_ble_eq_true rfl) dX9_isFalse_9

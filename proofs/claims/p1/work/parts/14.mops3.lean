set_option maxHeartbeats 4000000 in
set_option maxRecDepth 100000 in
theorem c180_X10_many (l : Launch) (G : va_G) (cI cJ cB cZ : ClassId) (a0 a1 a2 a3 a4 a5 a6 a7 a8 a9 a10 a11 a12 a13 a14 a15 a16 a17 a18 a19 a20 a21 a22 a23 a24 a25 a26 a27 a28 a29 a30 a31 a32 a33 a34 a35 a36 a37 a38 a39 a40 a41 a42 : Nat) (x0 : Int32) : Con l G (TY cI cJ cB cZ) yX10_many cX10_many 1 (some .int) ({ frames := 0, cells := 0, slots := 0, locals := 0 } : Room) [.ref a0] [(a0, .inr (10, [.ref a1, .ref a2, .int 0, .int 0, .int 0, .int (-1), .int 0, .int 0, .int 0, .int 0, .long 0, .ref a3, .ref a4, .ref a5, .ref a6, .ref a7, .ref a8, .ref a9, .ref a10, .ref a11, .ref a12, .ref a13, .ref a14, .ref a15, .ref a16, .ref a17, .ref a18, .ref a19, .ref a20, .ref a21, .ref a22, .ref a23, .ref a24, .ref a25, .ref a26, .ref a27, .ref a28, .ref a29, .ref a30, .ref a31, .int 0, .int 0, .ref a32, .ref a33, .int 0, .int 0, .int 0, .int 1, .ref a34, .int 0, .ref a35, .ref a36, .ref a37, .int 1, .int x0, .int 100, .int 1, .int 0, .int 0, .int 0, .int 0, .ref a38, .int (-1), .ref a39, .ref a40, .ref a41, .ref a42, .int 0, .int 0])), (a12, .inl (cI, 2, .inl (fun _ => 0)))] (QI G (TY cI cJ cB cZ) (fun (r : Int32) (u : Unit) => r = 0) (fun u : Unit => [(a0, .inr (10, [.ref a1, .ref a2, .int 0, .int 0, .int 0, .int (-1), .int 0, .int 0, .int 0, .int 0, .long 0, .ref a3, .ref a4, .ref a5, .ref a6, .ref a7, .ref a8, .ref a9, .ref a10, .ref a11, .ref a12, .ref a13, .ref a14, .ref a15, .ref a16, .ref a17, .ref a18, .ref a19, .ref a20, .ref a21, .ref a22, .ref a23, .ref a24, .ref a25, .ref a26, .ref a27, .ref a28, .ref a29, .ref a30, .ref a31, .int 0, .int 0, .ref a32, .ref a33, .int 0, .int 0, .int 0, .int 1, .ref a34, .int 0, .ref a35, .ref a36, .ref a37, .int 1, .int x0, .int 100, .int 1, .int 0, .int 0, .int 0, .int 0, .ref a38, .int (-1), .ref a39, .ref a40, .ref a41, .ref a42, .int 0, .int 0])), (a12, .inl (cI, 2, .inl (fun _ => 0)))])) := by
  refine k_met (by decide) (Nat.le_of_ble_eq_true rfl) ?_
  intro p e s m below meth c A ls hC hr hlk hnm hN hK hA hP hD hS hl
  have hl : lv_has ls 1 [(0, .ref a0)] := hl
  obtain ⟨hx, hb, hml, hown, hts⟩ := id hC
  refine lv_aload_n hx hb dX10_many_0 rfl (lv_at hl 0 rfl) ?_
  refine k_get hC hK hP iX10 0 20 wf_X10_138 rfl (by decide) rfl rfl dX10_many_1 ?_
  refine lv_aload_n hx hb dX10_many_4 rfl (lv_at hl 0 rfl) ?_
  refine k_get hC hK hP iX10 0 40 wf_X10_240 rfl (by decide) rfl rfl dX10_many_5 ?_
  refine k_iald (v := 0) hC hK hP 1 0 rfl (by decide +kernel) (by decide) (by decide +kernel) dX10_many_8 ?_
  exact k_iret hC hr hlk hK hP hD hS () [0, 1] rfl (by decide) rfl (Nat.le_of_ble_eq_true rfl) (Nat.le_of_ble_eq_true rfl) dX10_many_9
set_option maxHeartbeats 4000000 in
set_option maxRecDepth 100000 in
theorem c181_X10_poundWide (l : Launch) (G : va_G) (cI cJ cB cZ : ClassId) (a0 a1 a2 a3 a4 a5 a6 a7 a8 a9 a10 a11 a12 a13 a14 a15 a16 a17 a18 a19 a20 a21 a22 a23 a24 a25 a26 a27 a28 a29 a30 a31 a32 a33 a34 a35 a36 a37 a38 a39 a40 a41 a42 : Nat) (x0 : Int32) : Con l G (TY cI cJ cB cZ) yX10_poundWide cX10_poundWide 2 (some .int) ({ frames := 0, cells := 0, slots := 0, locals := 0 } : Room) [.ref a0, .int 1] [(a0, .inr (10, [.ref a1, .ref a2, .int 0, .int 0, .int 0, .int (-1), .int 0, .int 0, .int 0, .int 0, .long 0, .ref a3, .ref a4, .ref a5, .ref a6, .ref a7, .ref a8, .ref a9, .ref a10, .ref a11, .ref a12, .ref a13, .ref a14, .ref a15, .ref a16, .ref a17, .ref a18, .ref a19, .ref a20, .ref a21, .ref a22, .ref a23, .ref a24, .ref a25, .ref a26, .ref a27, .ref a28, .ref a29, .ref a30, .ref a31, .int 0, .int 0, .ref a32, .ref a33, .int 0, .int 0, .int 0, .int 1, .ref a34, .int 0, .ref a35, .ref a36, .ref a37, .int 1, .int x0, .int 100, .int 1, .int 0, .int 0, .int 0, .int 0, .ref a38, .int (-1), .ref a39, .ref a40, .ref a41, .ref a42, .int 0, .int 0])), (a11, .inl (cI, 4, .inl (upd (upd (fun _ => 0) 0 16) 1 16))), (a10, .inl (cI, 4, .inl (upd (upd (fun _ => 0) 0 16) 1 16)))] (QI G (TY cI cJ cB cZ) (fun (r : Int32) (u : Unit) => r = 1) (fun u : Unit => [(a0, .inr (10, [.ref a1, .ref a2, .int 0, .int 0, .int 0, .int (-1), .int 0, .int 0, .int 0, .int 0, .long 0, .ref a3, .ref a4, .ref a5, .ref a6, .ref a7, .ref a8, .ref a9, .ref a10, .ref a11, .ref a12, .ref a13, .ref a14, .ref a15, .ref a16, .ref a17, .ref a18, .ref a19, .ref a20, .ref a21, .ref a22, .ref a23, .ref a24, .ref a25, .ref a26, .ref a27, .ref a28, .ref a29, .ref a30, .ref a31, .int 0, .int 0, .ref a32, .ref a33, .int 0, .int 0, .int 0, .int 1, .ref a34, .int 0, .ref a35, .ref a36, .ref a37, .int 1, .int x0, .int 100, .int 1, .int 0, .int 0, .int 0, .int 0, .ref a38, .int (-1), .ref a39, .ref a40, .ref a41, .ref a42, .int 0, .int 0])), (a11, .inl (cI, 4, .inl (upd (upd (fun _ => 0) 0 16) 1 16))), (a10, .inl (cI, 4, .inl (upd (upd (fun _ => 0) 0 16) 1 16)))])) := by
  refine k_met (by decide) (Nat.le_of_ble_eq_true rfl) ?_
  intro p e s m below meth c A ls hC hr hlk hnm hN hK hA hP hD hS hl
  have hl : lv_has ls 2 [(0, .ref a0), (1, .int 1)] := hl
  obtain ⟨hx, hb, hml, hown, hts⟩ := id hC
  refine lv_aload_n hx hb dX10_poundWide_0 rfl (lv_at hl 0 rfl) ?_
  refine k_get hC hK hP iX10 0 19 wf_X10_135 rfl (by decide) rfl rfl dX10_poundWide_1 ?_
  refine lv_iconst (v := 2) hx hb dX10_poundWide_4 (by decide) ?_
  refine lv_aload_n hx hb dX10_poundWide_5 rfl (lv_at hl 0 rfl) ?_
  refine k_get hC hK hP iX10 0 40 wf_X10_240 rfl (by decide) rfl rfl dX10_poundWide_6 ?_
  refine lv_imul hx hb dX10_poundWide_9 ?_
  refine k_i 0 (by decide +kernel) ?_
  refine lv_iload_n hx hb dX10_poundWide_10 rfl (lv_at hl 1 rfl) ?_
  refine lv_iadd hx hb dX10_poundWide_11 ?_
  refine k_i 1 (by decide +kernel) ?_
  refine k_iald (v := 16) hC hK hP 1 1 rfl (by decide +kernel) (by decide) (by decide +kernel) dX10_poundWide_12 ?_
  refine lv_aload_n hx hb dX10_poundWide_13 rfl (lv_at hl 0 rfl) ?_
  refine k_get hC hK hP iX10 0 18 wf_X10_132 rfl (by decide) rfl rfl dX10_poundWide_14 ?_
  refine lv_iconst (v := 2) hx hb dX10_poundWide_17 (by decide) ?_
  refine lv_aload_n hx hb dX10_poundWide_18 rfl (lv_at hl 0 rfl) ?_
  refine k_get hC hK hP iX10 0 40 wf_X10_240 rfl (by decide) rfl rfl dX10_poundWide_19 ?_
  refine lv_imul hx hb dX10_poundWide_22 ?_
  refine k_i 0 (by decide +kernel) ?_
  refine lv_iload_n hx hb dX10_poundWide_23 rfl (lv_at hl 1 rfl) ?_
  refine lv_iadd hx hb dX10_poundWide_24 ?_
  refine k_i 1 (by decide +kernel) ?_
  refine k_iald (v := 16) hC hK hP 2 1 rfl (by decide +kernel) (by decide) (by decide +kernel) dX10_poundWide_25 ?_
  refine lv_isub hx hb dX10_poundWide_26 ?_
  refine k_i 0 (by decide +kernel) ?_
  refine lv_iconst (v := 1) hx hb dX10_poundWide_27 (by decide) ?_
  refine lv_iadd hx hb dX10_poundWide_28 ?_
  refine k_i 1 (by decide +kernel) ?_
  exact k_iret hC hr hlk hK hP hD hS () [0, 1, 2] rfl (by decide) rfl (Nat.le_of_ble_eq_true rfl) (Nat.le_of_ble_eq_true rfl) dX10_poundWide_29
set_option maxHeartbeats 4000000 in
set_option maxRecDepth 100000 in
theorem c182_X10_poundWide (l : Launch) (G : va_G) (cI cJ cB cZ : ClassId) (a0 a1 a2 a3 a4 a5 a6 a7 a8 a9 a10 a11 a12 a13 a14 a15 a16 a17 a18 a19 a20 a21 a22 a23 a24 a25 a26 a27 a28 a29 a30 a31 a32 a33 a34 a35 a36 a37 a38 a39 a40 a41 a42 : Nat) (x0 : Int32) : Con l G (TY cI cJ cB cZ) yX10_poundWide cX10_poundWide 2 (some .int) ({ frames := 0, cells := 0, slots := 0, locals := 0 } : Room) [.ref a0, .int 0] [(a0, .inr (10, [.ref a1, .ref a2, .int 0, .int 0, .int 0, .int (-1), .int 0, .int 0, .int 0, .int 0, .long 0, .ref a3, .ref a4, .ref a5, .ref a6, .ref a7, .ref a8, .ref a9, .ref a10, .ref a11, .ref a12, .ref a13, .ref a14, .ref a15, .ref a16, .ref a17, .ref a18, .ref a19, .ref a20, .ref a21, .ref a22, .ref a23, .ref a24, .ref a25, .ref a26, .ref a27, .ref a28, .ref a29, .ref a30, .ref a31, .int 0, .int 0, .ref a32, .ref a33, .int 0, .int 0, .int 0, .int 1, .ref a34, .int 0, .ref a35, .ref a36, .ref a37, .int 1, .int x0, .int 100, .int 1, .int 0, .int 0, .int 0, .int 0, .ref a38, .int (-1), .ref a39, .ref a40, .ref a41, .ref a42, .int 0, .int 0])), (a11, .inl (cI, 4, .inl (upd (upd (fun _ => 0) 0 16) 1 16))), (a10, .inl (cI, 4, .inl (upd (upd (fun _ => 0) 0 16) 1 16)))] (QI G (TY cI cJ cB cZ) (fun (r : Int32) (u : Unit) => r = 1) (fun u : Unit => [(a0, .inr (10, [.ref a1, .ref a2, .int 0, .int 0, .int 0, .int (-1), .int 0, .int 0, .int 0, .int 0, .long 0, .ref a3, .ref a4, .ref a5, .ref a6, .ref a7, .ref a8, .ref a9, .ref a10, .ref a11, .ref a12, .ref a13, .ref a14, .ref a15, .ref a16, .ref a17, .ref a18, .ref a19, .ref a20, .ref a21, .ref a22, .ref a23, .ref a24, .ref a25, .ref a26, .ref a27, .ref a28, .ref a29, .ref a30, .ref a31, .int 0, .int 0, .ref a32, .ref a33, .int 0, .int 0, .int 0, .int 1, .ref a34, .int 0, .ref a35, .ref a36, .ref a37, .int 1, .int x0, .int 100, .int 1, .int 0, .int 0, .int 0, .int 0, .ref a38, .int (-1), .ref a39, .ref a40, .ref a41, .ref a42, .int 0, .int 0])), (a11, .inl (cI, 4, .inl (upd (upd (fun _ => 0) 0 16) 1 16))), (a10, .inl (cI, 4, .inl (upd (upd (fun _ => 0) 0 16) 1 16)))])) := by
  refine k_met (by decide) (Nat.le_of_ble_eq_true rfl) ?_
  intro p e s m below meth c A ls hC hr hlk hnm hN hK hA hP hD hS hl
  have hl : lv_has ls 2 [(0, .ref a0), (1, .int 0)] := hl
  obtain ⟨hx, hb, hml, hown, hts⟩ := id hC
  refine lv_aload_n hx hb dX10_poundWide_0 rfl (lv_at hl 0 rfl) ?_
  refine k_get hC hK hP iX10 0 19 wf_X10_135 rfl (by decide) rfl rfl dX10_poundWide_1 ?_
  refine lv_iconst (v := 2) hx hb dX10_poundWide_4 (by decide) ?_
  refine lv_aload_n hx hb dX10_poundWide_5 rfl (lv_at hl 0 rfl) ?_
  refine k_get hC hK hP iX10 0 40 wf_X10_240 rfl (by decide) rfl rfl dX10_poundWide_6 ?_
  refine lv_imul hx hb dX10_poundWide_9 ?_
  refine k_i 0 (by decide +kernel) ?_
  refine lv_iload_n hx hb dX10_poundWide_10 rfl (lv_at hl 1 rfl) ?_
  refine lv_iadd hx hb dX10_poundWide_11 ?_
  refine k_i 0 (by decide +kernel) ?_
  refine k_iald (v := 16) hC hK hP 1 0 rfl (by decide +kernel) (by decide) (by decide +kernel) dX10_poundWide_12 ?_
  refine lv_aload_n hx hb dX10_poundWide_13 rfl (lv_at hl 0 rfl) ?_
  refine k_get hC hK hP iX10 0 18 wf_X10_132 rfl (by decide) rfl rfl dX10_poundWide_14 ?_
  refine lv_iconst (v := 2) hx hb dX10_poundWide_17 (by decide) ?_
  refine lv_aload_n hx hb dX10_poundWide_18 rfl (lv_at hl 0 rfl) ?_
  refine k_get hC hK hP iX10 0 40 wf_X10_240 rfl (by decide) rfl rfl dX10_poundWide_19 ?_
  refine lv_imul hx hb dX10_poundWide_22 ?_
  refine k_i 0 (by decide +kernel) ?_
  refine lv_iload_n hx hb dX10_poundWide_23 rfl (lv_at hl 1 rfl) ?_
  refine lv_iadd hx hb dX10_poundWide_24 ?_
  refine k_i 0 (by decide +kernel) ?_
  refine k_iald (v := 16) hC hK hP 2 0 rfl (by decide +kernel) (by decide) (by decide +kernel) dX10_poundWide_25 ?_
  refine lv_isub hx hb dX10_poundWide_26 ?_
  refine k_i 0 (by decide +kernel) ?_
  refine lv_iconst (v := 1) hx hb dX10_poundWide_27 (by decide) ?_
  refine lv_iadd hx hb dX10_poundWide_28 ?_
  refine k_i 1 (by decide +kernel) ?_
  exact k_iret hC hr hlk hK hP hD hS () [0, 1, 2] rfl (by decide) rfl (Nat.le_of_ble_eq_true rfl) (Nat.le_of_ble_eq_true rfl) dX10_poundWide_29
set_option maxHeartbeats 4000000 in
set_option maxRecDepth 100000 in
theorem c183_X10_lay (l : Launch) (G : va_G) (cI cJ cB cZ : ClassId) (a0 a1 a2 a3 a4 a5 a6 a7 a8 a9 a10 a11 a12 a13 a14 a15 a16 a17 a18 a19 a20 a21 a22 a23 a24 a25 a26 a27 a28 a29 a30 a31 a32 a33 a34 a35 a36 a37 a38 a39 a40 a41 a42 : Nat) (x0 : Int32) : Con l G (TY cI cJ cB cZ) yX10_lay cX10_lay 5 (some .boolean) ({ frames := 1, cells := 0, slots := 0, locals := 21 } : Room) [.ref a0, .int 0] [(a0, .inr (10, [.ref a1, .ref a2, .int 0, .int 0, .int 0, .int (-1), .int 0, .int 0, .int 0, .int 0, .long 0, .ref a3, .ref a4, .ref a5, .ref a6, .ref a7, .ref a8, .ref a9, .ref a10, .ref a11, .ref a12, .ref a13, .ref a14, .ref a15, .ref a16, .ref a17, .ref a18, .ref a19, .ref a20, .ref a21, .ref a22, .ref a23, .ref a24, .ref a25, .ref a26, .ref a27, .ref a28, .ref a29, .ref a30, .ref a31, .int 0, .int 0, .ref a32, .ref a33, .int 0, .int 0, .int 0, .int 1, .ref a34, .int 0, .ref a35, .ref a36, .ref a37, .int 1, .int x0, .int 100, .int 1, .int 0, .int 0, .int 0, .int 0, .ref a38, .int (-1), .ref a39, .ref a40, .ref a41, .ref a42, .int 0, .int 0])), (a12, .inl (cI, 2, .inl (fun _ => 0))), (a10, .inl (cI, 4, .inl (upd (upd (fun _ => 0) 0 16) 1 16))), (a11, .inl (cI, 4, .inl (upd (upd (fun _ => 0) 0 16) 1 16))), (a37, .inl (cI, 2, .inl (upd (upd (fun _ => 0) 1 16) 0 16))), (a7, .inl (cI, 2, .inl (upd (fun _ => 0) 0 100)))] (QI G (TY cI cJ cB cZ) (fun (r : Int32) (u : Unit) => r = 1) (fun u : Unit => [(a0, .inr (10, [.ref a1, .ref a2, .int 0, .int 0, .int 0, .int (-1), .int 0, .int 0, .int 0, .int 0, .long 0, .ref a3, .ref a4, .ref a5, .ref a6, .ref a7, .ref a8, .ref a9, .ref a10, .ref a11, .ref a12, .ref a13, .ref a14, .ref a15, .ref a16, .ref a17, .ref a18, .ref a19, .ref a20, .ref a21, .ref a22, .ref a23, .ref a24, .ref a25, .ref a26, .ref a27, .ref a28, .ref a29, .ref a30, .ref a31, .int 0, .int 0, .ref a32, .ref a33, .int 0, .int 0, .int 0, .int 1, .ref a34, .int 0, .ref a35, .ref a36, .ref a37, .int 1, .int x0, .int 100, .int 1, .int 0, .int 0, .int 0, .int 0, .ref a38, .int (-1), .ref a39, .ref a40, .ref a41, .ref a42, .int 0, .int 0])), (a12, .inl (cI, 2, .inl (fun _ => 0))), (a10, .inl (cI, 4, .inl (upd (upd (fun _ => 0) 0 16) 1 16))), (a11, .inl (cI, 4, .inl (upd (upd (fun _ => 0) 0 16) 1 16))), (a37, .inl (cI, 2, .inl (upd (upd (fun _ => 0) 1 16) 0 16))), (a7, .inl (cI, 2, .inl (upd (fun _ => 0) 0 100)))])) := by
  refine k_met (by decide) (Nat.le_of_ble_eq_true rfl) ?_
  intro p e s m below meth c A ls hC hr hlk hnm hN hK hA hP hD hS hl
  have hl : lv_has ls 5 [(0, .ref a0), (1, .int 0)] := hl
  obtain ⟨hx, hb, hml, hown, hts⟩ := id hC
  refine lv_iload_n hx hb dX10_lay_0 rfl (lv_at hl 1 rfl) ?_
  refine lv_istore_n (lv' := [(2, .int 0), (0, .ref a0), (1, .int 0)]) hx hb dX10_lay_1 rfl hl (by decide) rfl (fun ls hl => ?_)
  refine lv_aload_n hx hb dX10_lay_2 rfl (lv_at hl 1 rfl) ?_
  refine k_ci (wr := [(a10, .inl (cI, 4, .inl (upd (upd (fun _ => 0) 0 16) 1 16))), (a11, .inl (cI, 4, .inl (upd (upd (fun _ => 0) 0 16) 1 16))), (a37, .inl (cI, 2, .inl (upd (upd (fun _ => 0) 1 16) 0 16))), (a7, .inl (cI, 2, .inl (upd (fun _ => 0) 0 100)))]) (k_rV hC hN hK hP hD (c180_X10_many l G cI cJ cB cZ a0 a1 a2 a3 a4 a5 a6 a7 a8 a9 a10 a11 a12 a13 a14 a15 a16 a17 a18 a19 a20 a21 a22 a23 a24 a25 a26 a27 a28 a29 a30 a31 a32 a33 a34 a35 a36 a37 a38 a39 a40 a41 a42 x0) [0, 1] rfl (by decide) mi_X10_many in_X10_many se_X10_many wm_X10_304 10 0 rfl rfl rfl hl.1 rfl rfl (Nat.le_of_ble_eq_true rfl) ⟨(Nat.le_of_ble_eq_true rfl), (Nat.le_of_ble_eq_true rfl)⟩ dX10_lay_3 ⟨(Nat.le_of_ble_eq_true rfl), (Nat.le_of_ble_eq_true rfl)⟩) hP hD hS hA [0, 1] [2, 3, 4, 5] rfl rfl (by decide) (by decide) (fun r1 u1 H locs hp hP hD hS => ?_)
  have hP : va_P G cl [(a10, .inl (cI, 4, .inl (upd (upd (fun _ => 0) 0 16) 1 16))), (a11, .inl (cI, 4, .inl (upd (upd (fun _ => 0) 0 16) 1 16))), (a37, .inl (cI, 2, .inl (upd (upd (fun _ => 0) 1 16) 0 16))), (a7, .inl (cI, 2, .inl (upd (fun _ => 0) 0 100))), (a0, .inr (10, [.ref a1, .ref a2, .int 0, .int 0, .int 0, .int (-1), .int 0, .int 0, .int 0, .int 0, .long 0, .ref a3, .ref a4, .ref a5, .ref a6, .ref a7, .ref a8, .ref a9, .ref a10, .ref a11, .ref a12, .ref a13, .ref a14, .ref a15, .ref a16, .ref a17, .ref a18, .ref a19, .ref a20, .ref a21, .ref a22, .ref a23, .ref a24, .ref a25, .ref a26, .ref a27, .ref a28, .ref a29, .ref a30, .ref a31, .int 0, .int 0, .ref a32, .ref a33, .int 0, .int 0, .int 0, .int 1, .ref a34, .int 0, .ref a35, .ref a36, .ref a37, .int 1, .int x0, .int 100, .int 1, .int 0, .int 0, .int 0, .int 0, .ref a38, .int (-1), .ref a39, .ref a40, .ref a41, .ref a42, .int 0, .int 0])), (a12, .inl (cI, 2, .inl (fun _ => 0)))] H := hP
  have hD : va_D A [(a10, .inl (cI, 4, .inl (upd (upd (fun _ => 0) 0 16) 1 16))), (a11, .inl (cI, 4, .inl (upd (upd (fun _ => 0) 0 16) 1 16))), (a37, .inl (cI, 2, .inl (upd (upd (fun _ => 0) 1 16) 0 16))), (a7, .inl (cI, 2, .inl (upd (fun _ => 0) 0 100))), (a0, .inr (10, [.ref a1, .ref a2, .int 0, .int 0, .int 0, .int (-1), .int 0, .int 0, .int 0, .int 0, .long 0, .ref a3, .ref a4, .ref a5, .ref a6, .ref a7, .ref a8, .ref a9, .ref a10, .ref a11, .ref a12, .ref a13, .ref a14, .ref a15, .ref a16, .ref a17, .ref a18, .ref a19, .ref a20, .ref a21, .ref a22, .ref a23, .ref a24, .ref a25, .ref a26, .ref a27, .ref a28, .ref a29, .ref a30, .ref a31, .int 0, .int 0, .ref a32, .ref a33, .int 0, .int 0, .int 0, .int 1, .ref a34, .int 0, .ref a35, .ref a36, .ref a37, .int 1, .int x0, .int 100, .int 1, .int 0, .int 0, .int 0, .int 0, .ref a38, .int (-1), .ref a39, .ref a40, .ref a41, .ref a42, .int 0, .int 0])), (a12, .inl (cI, 2, .inl (fun _ => 0)))] := hD
  subst hp
  refine lv_iconst (v := 1) hx hb dX10_lay_6 (by decide) ?_
  refine lv_isub hx hb dX10_lay_7 ?_
  refine k_i (-1) (by decide +kernel) ?_
  refine lv_istore_n (lv' := [(3, .int (-1)), (2, .int 0), (0, .ref a0), (1, .int 0)]) hx hb dX10_lay_8 rfl hl (by decide) rfl (fun ls hl => ?_)
  refine lv_iload_n hx hb dX10_lay_9 rfl (lv_at hl 0 rfl) ?_
  refine lv_if_lt (tgt := 40) hx hb dX10_lay_10 (by decide) (fun _ => ?_) (fun c_ => absurd (by decide +kernel) c_)
  refine lv_aload_n hx hb dX10_lay_40 rfl (lv_at hl 2 rfl) ?_
  refine k_get hC hK hP iX10 4 52 wf_X10_215 rfl (by decide) rfl rfl dX10_lay_41 ?_
  refine lv_iconst (v := 1) hx hb dX10_lay_44 (by decide) ?_
  refine lv_aload_n hx hb dX10_lay_45 rfl (lv_at hl 2 rfl) ?_
  refine k_get hC hK hP iX10 4 18 wf_X10_132 rfl (by decide) rfl rfl dX10_lay_46 ?_
  refine lv_iconst (v := 2) hx hb dX10_lay_49 (by decide) ?_
  refine lv_aload_n hx hb dX10_lay_50 rfl (lv_at hl 2 rfl) ?_
  refine k_get hC hK hP iX10 4 40 wf_X10_240 rfl (by decide) rfl rfl dX10_lay_51 ?_
  refine lv_imul hx hb dX10_lay_54 ?_
  refine k_i 0 (by decide +kernel) ?_
  refine lv_iconst (v := 1) hx hb dX10_lay_55 (by decide) ?_
  refine lv_iadd hx hb dX10_lay_56 ?_
  refine k_i 1 (by decide +kernel) ?_
  refine k_iald (v := 16) hC hK hP 0 1 rfl (by decide +kernel) (by decide) (by decide +kernel) dX10_lay_57 ?_
  refine lv_iload_n hx hb dX10_lay_58 rfl (lv_at hl 1 rfl) ?_
  refine lv_aload_n hx hb dX10_lay_59 rfl (lv_at hl 2 rfl) ?_
  refine lv_iconst (v := 1) hx hb dX10_lay_60 (by decide) ?_
  refine k_ci (wr := [(a37, .inl (cI, 2, .inl (upd (upd (fun _ => 0) 1 16) 0 16))), (a7, .inl (cI, 2, .inl (upd (fun _ => 0) 0 100))), (a12, .inl (cI, 2, .inl (fun _ => 0)))]) (k_rV hC hN hK hP hD (c181_X10_poundWide l G cI cJ cB cZ a0 a1 a2 a3 a4 a5 a6 a7 a8 a9 a10 a11 a12 a13 a14 a15 a16 a17 a18 a19 a20 a21 a22 a23 a24 a25 a26 a27 a28 a29 a30 a31 a32 a33 a34 a35 a36 a37 a38 a39 a40 a41 a42 x0) [4, 1, 0] rfl (by decide) mi_X10_poundWide in_X10_poundWide se_X10_poundWide wm_X10_332 10 4 rfl rfl rfl hl.1 rfl rfl (Nat.le_of_ble_eq_true rfl) ⟨(Nat.le_of_ble_eq_true rfl), (Nat.le_of_ble_eq_true rfl)⟩ dX10_lay_61 ⟨(Nat.le_of_ble_eq_true rfl), (Nat.le_of_ble_eq_true rfl)⟩) hP hD hS hA [4, 1, 0] [2, 3, 5] rfl rfl (by decide) (by decide) (fun r2 u2 H locs hp hP hD hS => ?_)
  have hP : va_P G cl [(a37, .inl (cI, 2, .inl (upd (upd (fun _ => 0) 1 16) 0 16))), (a7, .inl (cI, 2, .inl (upd (fun _ => 0) 0 100))), (a12, .inl (cI, 2, .inl (fun _ => 0))), (a0, .inr (10, [.ref a1, .ref a2, .int 0, .int 0, .int 0, .int (-1), .int 0, .int 0, .int 0, .int 0, .long 0, .ref a3, .ref a4, .ref a5, .ref a6, .ref a7, .ref a8, .ref a9, .ref a10, .ref a11, .ref a12, .ref a13, .ref a14, .ref a15, .ref a16, .ref a17, .ref a18, .ref a19, .ref a20, .ref a21, .ref a22, .ref a23, .ref a24, .ref a25, .ref a26, .ref a27, .ref a28, .ref a29, .ref a30, .ref a31, .int 0, .int 0, .ref a32, .ref a33, .int 0, .int 0, .int 0, .int 1, .ref a34, .int 0, .ref a35, .ref a36, .ref a37, .int 1, .int x0, .int 100, .int 1, .int 0, .int 0, .int 0, .int 0, .ref a38, .int (-1), .ref a39, .ref a40, .ref a41, .ref a42, .int 0, .int 0])), (a11, .inl (cI, 4, .inl (upd (upd (fun _ => 0) 0 16) 1 16))), (a10, .inl (cI, 4, .inl (upd (upd (fun _ => 0) 0 16) 1 16)))] H := hP
  have hD : va_D A [(a37, .inl (cI, 2, .inl (upd (upd (fun _ => 0) 1 16) 0 16))), (a7, .inl (cI, 2, .inl (upd (fun _ => 0) 0 100))), (a12, .inl (cI, 2, .inl (fun _ => 0))), (a0, .inr (10, [.ref a1, .ref a2, .int 0, .int 0, .int 0, .int (-1), .int 0, .int 0, .int 0, .int 0, .long 0, .ref a3, .ref a4, .ref a5, .ref a6, .ref a7, .ref a8, .ref a9, .ref a10, .ref a11, .ref a12, .ref a13, .ref a14, .ref a15, .ref a16, .ref a17, .ref a18, .ref a19, .ref a20, .ref a21, .ref a22, .ref a23, .ref a24, .ref a25, .ref a26, .ref a27, .ref a28, .ref a29, .ref a30, .ref a31, .int 0, .int 0, .ref a32, .ref a33, .int 0, .int 0, .int 0, .int 1, .ref a34, .int 0, .ref a35, .ref a36, .ref a37, .int 1, .int x0, .int 100, .int 1, .int 0, .int 0, .int 0, .int 0, .ref a38, .int (-1), .ref a39, .ref a40, .ref a41, .ref a42, .int 0, .int 0])), (a11, .inl (cI, 4, .inl (upd (upd (fun _ => 0) 0 16) 1 16))), (a10, .inl (cI, 4, .inl (upd (upd (fun _ => 0) 0 16) 1 16)))] := hD
  subst hp
  refine lv_irem hx hb dX10_lay_64 (by decide) ?_
  refine k_i 0 (by decide +kernel) ?_
  refine lv_iadd hx hb dX10_lay_65 ?_
  refine k_i 16 (by decide +kernel) ?_
  refine k_iastS hC hK hP hD hS 0 1 rfl (by decide +kernel) (by decide) (by decide +kernel) dX10_lay_66 (fun H locs hP hD hS => ?_)
  refine lv_iload_n hx hb dX10_lay_67 rfl (lv_at hl 1 rfl) ?_
  refine lv_aload_n hx hb dX10_lay_68 rfl (lv_at hl 2 rfl) ?_
  refine lv_iconst (v := 1) hx hb dX10_lay_69 (by decide) ?_
  refine k_ci (wr := [(a37, .inl (cI, 2, .inl (upd (upd (fun _ => 0) 1 16) 0 16))), (a7, .inl (cI, 2, .inl (upd (fun _ => 0) 0 100))), (a12, .inl (cI, 2, .inl (fun _ => 0)))]) (k_rV hC hN hK hP hD (c181_X10_poundWide l G cI cJ cB cZ a0 a1 a2 a3 a4 a5 a6 a7 a8 a9 a10 a11 a12 a13 a14 a15 a16 a17 a18 a19 a20 a21 a22 a23 a24 a25 a26 a27 a28 a29 a30 a31 a32 a33 a34 a35 a36 a37 a38 a39 a40 a41 a42 x0) [3, 4, 5] rfl (by decide) mi_X10_poundWide in_X10_poundWide se_X10_poundWide wm_X10_332 10 3 rfl rfl rfl hl.1 rfl rfl (Nat.le_of_ble_eq_true rfl) ⟨(Nat.le_of_ble_eq_true rfl), (Nat.le_of_ble_eq_true rfl)⟩ dX10_lay_70 ⟨(Nat.le_of_ble_eq_true rfl), (Nat.le_of_ble_eq_true rfl)⟩) hP hD hS hA [3, 4, 5] [0, 1, 2] rfl rfl (by decide) (by decide) (fun r3 u3 H locs hp hP hD hS => ?_)
  have hP : va_P G cl [(a37, .inl (cI, 2, .inl (upd (upd (fun _ => 0) 1 16) 0 16))), (a7, .inl (cI, 2, .inl (upd (fun _ => 0) 0 100))), (a12, .inl (cI, 2, .inl (fun _ => 0))), (a0, .inr (10, [.ref a1, .ref a2, .int 0, .int 0, .int 0, .int (-1), .int 0, .int 0, .int 0, .int 0, .long 0, .ref a3, .ref a4, .ref a5, .ref a6, .ref a7, .ref a8, .ref a9, .ref a10, .ref a11, .ref a12, .ref a13, .ref a14, .ref a15, .ref a16, .ref a17, .ref a18, .ref a19, .ref a20, .ref a21, .ref a22, .ref a23, .ref a24, .ref a25, .ref a26, .ref a27, .ref a28, .ref a29, .ref a30, .ref a31, .int 0, .int 0, .ref a32, .ref a33, .int 0, .int 0, .int 0, .int 1, .ref a34, .int 0, .ref a35, .ref a36, .ref a37, .int 1, .int x0, .int 100, .int 1, .int 0, .int 0, .int 0, .int 0, .ref a38, .int (-1), .ref a39, .ref a40, .ref a41, .ref a42, .int 0, .int 0])), (a11, .inl (cI, 4, .inl (upd (upd (fun _ => 0) 0 16) 1 16))), (a10, .inl (cI, 4, .inl (upd (upd (fun _ => 0) 0 16) 1 16)))] H := hP
  have hD : va_D A [(a37, .inl (cI, 2, .inl (upd (upd (fun _ => 0) 1 16) 0 16))), (a7, .inl (cI, 2, .inl (upd (fun _ => 0) 0 100))), (a12, .inl (cI, 2, .inl (fun _ => 0))), (a0, .inr (10, [.ref a1, .ref a2, .int 0, .int 0, .int 0, .int (-1), .int 0, .int 0, .int 0, .int 0, .long 0, .ref a3, .ref a4, .ref a5, .ref a6, .ref a7, .ref a8, .ref a9, .ref a10, .ref a11, .ref a12, .ref a13, .ref a14, .ref a15, .ref a16, .ref a17, .ref a18, .ref a19, .ref a20, .ref a21, .ref a22, .ref a23, .ref a24, .ref a25, .ref a26, .ref a27, .ref a28, .ref a29, .ref a30, .ref a31, .int 0, .int 0, .ref a32, .ref a33, .int 0, .int 0, .int 0, .int 1, .ref a34, .int 0, .ref a35, .ref a36, .ref a37, .int 1, .int x0, .int 100, .int 1, .int 0, .int 0, .int 0, .int 0, .ref a38, .int (-1), .ref a39, .ref a40, .ref a41, .ref a42, .int 0, .int 0])), (a11, .inl (cI, 4, .inl (upd (upd (fun _ => 0) 0 16) 1 16))), (a10, .inl (cI, 4, .inl (upd (upd (fun _ => 0) 0 16) 1 16)))] := hD
  subst hp
  refine lv_idiv hx hb dX10_lay_73 (by decide) ?_
  refine k_i 0 (by decide +kernel) ?_
  refine lv_istore_n (lv' := [(2, .int 0), (3, .int (-1)), (0, .ref a0), (1, .int 0)]) hx hb dX10_lay_74 rfl hl (by decide) rfl (fun ls hl => ?_)
  refine lv_aload_n hx hb dX10_lay_75 rfl (lv_at hl 2 rfl) ?_
  refine k_get hC hK hP iX10 3 52 wf_X10_215 rfl (by decide) rfl rfl dX10_lay_76 ?_
  refine lv_iconst (v := 0) hx hb dX10_lay_79 (by decide) ?_
  refine lv_aload_n hx hb dX10_lay_80 rfl (lv_at hl 2 rfl) ?_
  refine k_get hC hK hP iX10 3 18 wf_X10_132 rfl (by decide) rfl rfl dX10_lay_81 ?_
  refine lv_iconst (v := 2) hx hb dX10_lay_84 (by decide) ?_
  refine lv_aload_n hx hb dX10_lay_85 rfl (lv_at hl 2 rfl) ?_
  refine k_get hC hK hP iX10 3 40 wf_X10_240 rfl (by decide) rfl rfl dX10_lay_86 ?_
  refine lv_imul hx hb dX10_lay_89 ?_
  refine k_i 0 (by decide +kernel) ?_
  refine k_iald (v := 16) hC hK hP 5 0 rfl (by decide +kernel) (by decide) (by decide +kernel) dX10_lay_90 ?_
  refine lv_iload_n hx hb dX10_lay_91 rfl (lv_at hl 0 rfl) ?_
  refine lv_aload_n hx hb dX10_lay_92 rfl (lv_at hl 2 rfl) ?_
  refine lv_iconst (v := 0) hx hb dX10_lay_93 (by decide) ?_
  refine k_ci (wr := [(a37, .inl (cI, 2, .inl (upd (upd (fun _ => 0) 1 16) 0 16))), (a7, .inl (cI, 2, .inl (upd (fun _ => 0) 0 100))), (a12, .inl (cI, 2, .inl (fun _ => 0)))]) (k_rV hC hN hK hP hD (c182_X10_poundWide l G cI cJ cB cZ a0 a1 a2 a3 a4 a5 a6 a7 a8 a9 a10 a11 a12 a13 a14 a15 a16 a17 a18 a19 a20 a21 a22 a23 a24 a25 a26 a27 a28 a29 a30 a31 a32 a33 a34 a35 a36 a37 a38 a39 a40 a41 a42 x0) [3, 4, 5] rfl (by decide) mi_X10_poundWide in_X10_poundWide se_X10_poundWide wm_X10_332 10 3 rfl rfl rfl hl.1 rfl rfl (Nat.le_of_ble_eq_true rfl) ⟨(Nat.le_of_ble_eq_true rfl), (Nat.le_of_ble_eq_true rfl)⟩ dX10_lay_94 ⟨(Nat.le_of_ble_eq_true rfl), (Nat.le_of_ble_eq_true rfl)⟩) hP hD hS hA [3, 4, 5] [0, 1, 2] rfl rfl (by decide) (by decide) (fun r4 u4 H locs hp hP hD hS => ?_)
  have hP : va_P G cl [(a37, .inl (cI, 2, .inl (upd (upd (fun _ => 0) 1 16) 0 16))), (a7, .inl (cI, 2, .inl (upd (fun _ => 0) 0 100))), (a12, .inl (cI, 2, .inl (fun _ => 0))), (a0, .inr (10, [.ref a1, .ref a2, .int 0, .int 0, .int 0, .int (-1), .int 0, .int 0, .int 0, .int 0, .long 0, .ref a3, .ref a4, .ref a5, .ref a6, .ref a7, .ref a8, .ref a9, .ref a10, .ref a11, .ref a12, .ref a13, .ref a14, .ref a15, .ref a16, .ref a17, .ref a18, .ref a19, .ref a20, .ref a21, .ref a22, .ref a23, .ref a24, .ref a25, .ref a26, .ref a27, .ref a28, .ref a29, .ref a30, .ref a31, .int 0, .int 0, .ref a32, .ref a33, .int 0, .int 0, .int 0, .int 1, .ref a34, .int 0, .ref a35, .ref a36, .ref a37, .int 1, .int x0, .int 100, .int 1, .int 0, .int 0, .int 0, .int 0, .ref a38, .int (-1), .ref a39, .ref a40, .ref a41, .ref a42, .int 0, .int 0])), (a11, .inl (cI, 4, .inl (upd (upd (fun _ => 0) 0 16) 1 16))), (a10, .inl (cI, 4, .inl (upd (upd (fun _ => 0) 0 16) 1 16)))] H := hP
  have hD : va_D A [(a37, .inl (cI, 2, .inl (upd (upd (fun _ => 0) 1 16) 0 16))), (a7, .inl (cI, 2, .inl (upd (fun _ => 0) 0 100))), (a12, .inl (cI, 2, .inl (fun _ => 0))), (a0, .inr (10, [.ref a1, .ref a2, .int 0, .int 0, .int 0, .int (-1), .int 0, .int 0, .int 0, .int 0, .long 0, .ref a3, .ref a4, .ref a5, .ref a6, .ref a7, .ref a8, .ref a9, .ref a10, .ref a11, .ref a12, .ref a13, .ref a14, .ref a15, .ref a16, .ref a17, .ref a18, .ref a19, .ref a20, .ref a21, .ref a22, .ref a23, .ref a24, .ref a25, .ref a26, .ref a27, .ref a28, .ref a29, .ref a30, .ref a31, .int 0, .int 0, .ref a32, .ref a33, .int 0, .int 0, .int 0, .int 1, .ref a34, .int 0, .ref a35, .ref a36, .ref a37, .int 1, .int x0, .int 100, .int 1, .int 0, .int 0, .int 0, .int 0, .ref a38, .int (-1), .ref a39, .ref a40, .ref a41, .ref a42, .int 0, .int 0])), (a11, .inl (cI, 4, .inl (upd (upd (fun _ => 0) 0 16) 1 16))), (a10, .inl (cI, 4, .inl (upd (upd (fun _ => 0) 0 16) 1 16)))] := hD
  subst hp
  refine lv_irem hx hb dX10_lay_97 (by decide) ?_
  refine k_i 0 (by decide +kernel) ?_
  refine lv_iadd hx hb dX10_lay_98 ?_
  refine k_i 16 (by decide +kernel) ?_
  refine k_iastS hC hK hP hD hS 0 0 rfl (by decide +kernel) (by decide) (by decide +kernel) dX10_lay_99 (fun H locs hP hD hS => ?_)
  refine lv_iload_n hx hb dX10_lay_100 rfl (lv_at hl 0 rfl) ?_
  refine lv_aload_n hx hb dX10_lay_101 rfl (lv_at hl 2 rfl) ?_
  refine lv_iconst (v := 0) hx hb dX10_lay_102 (by decide) ?_
  refine k_ci (wr := [(a37, .inl (cI, 2, .inl (upd (upd (fun _ => 0) 1 16) 0 16))), (a7, .inl (cI, 2, .inl (upd (fun _ => 0) 0 100))), (a12, .inl (cI, 2, .inl (fun _ => 0)))]) (k_rV hC hN hK hP hD (c182_X10_poundWide l G cI cJ cB cZ a0 a1 a2 a3 a4 a5 a6 a7 a8 a9 a10 a11 a12 a13 a14 a15 a16 a17 a18 a19 a20 a21 a22 a23 a24 a25 a26 a27 a28 a29 a30 a31 a32 a33 a34 a35 a36 a37 a38 a39 a40 a41 a42 x0) [3, 4, 5] rfl (by decide) mi_X10_poundWide in_X10_poundWide se_X10_poundWide wm_X10_332 10 3 rfl rfl rfl hl.1 rfl rfl (Nat.le_of_ble_eq_true rfl) ⟨(Nat.le_of_ble_eq_true rfl), (Nat.le_of_ble_eq_true rfl)⟩ dX10_lay_103 ⟨(Nat.le_of_ble_eq_true rfl), (Nat.le_of_ble_eq_true rfl)⟩) hP hD hS hA [3, 4, 5] [0, 1, 2] rfl rfl (by decide) (by decide) (fun r5 u5 H locs hp hP hD hS => ?_)
  have hP : va_P G cl [(a37, .inl (cI, 2, .inl (upd (upd (fun _ => 0) 1 16) 0 16))), (a7, .inl (cI, 2, .inl (upd (fun _ => 0) 0 100))), (a12, .inl (cI, 2, .inl (fun _ => 0))), (a0, .inr (10, [.ref a1, .ref a2, .int 0, .int 0, .int 0, .int (-1), .int 0, .int 0, .int 0, .int 0, .long 0, .ref a3, .ref a4, .ref a5, .ref a6, .ref a7, .ref a8, .ref a9, .ref a10, .ref a11, .ref a12, .ref a13, .ref a14, .ref a15, .ref a16, .ref a17, .ref a18, .ref a19, .ref a20, .ref a21, .ref a22, .ref a23, .ref a24, .ref a25, .ref a26, .ref a27, .ref a28, .ref a29, .ref a30, .ref a31, .int 0, .int 0, .ref a32, .ref a33, .int 0, .int 0, .int 0, .int 1, .ref a34, .int 0, .ref a35, .ref a36, .ref a37, .int 1, .int x0, .int 100, .int 1, .int 0, .int 0, .int 0, .int 0, .ref a38, .int (-1), .ref a39, .ref a40, .ref a41, .ref a42, .int 0, .int 0])), (a11, .inl (cI, 4, .inl (upd (upd (fun _ => 0) 0 16) 1 16))), (a10, .inl (cI, 4, .inl (upd (upd (fun _ => 0) 0 16) 1 16)))] H := hP
  have hD : va_D A [(a37, .inl (cI, 2, .inl (upd (upd (fun _ => 0) 1 16) 0 16))), (a7, .inl (cI, 2, .inl (upd (fun _ => 0) 0 100))), (a12, .inl (cI, 2, .inl (fun _ => 0))), (a0, .inr (10, [.ref a1, .ref a2, .int 0, .int 0, .int 0, .int (-1), .int 0, .int 0, .int 0, .int 0, .long 0, .ref a3, .ref a4, .ref a5, .ref a6, .ref a7, .ref a8, .ref a9, .ref a10, .ref a11, .ref a12, .ref a13, .ref a14, .ref a15, .ref a16, .ref a17, .ref a18, .ref a19, .ref a20, .ref a21, .ref a22, .ref a23, .ref a24, .ref a25, .ref a26, .ref a27, .ref a28, .ref a29, .ref a30, .ref a31, .int 0, .int 0, .ref a32, .ref a33, .int 0, .int 0, .int 0, .int 1, .ref a34, .int 0, .ref a35, .ref a36, .ref a37, .int 1, .int x0, .int 100, .int 1, .int 0, .int 0, .int 0, .int 0, .ref a38, .int (-1), .ref a39, .ref a40, .ref a41, .ref a42, .int 0, .int 0])), (a11, .inl (cI, 4, .inl (upd (upd (fun _ => 0) 0 16) 1 16))), (a10, .inl (cI, 4, .inl (upd (upd (fun _ => 0) 0 16) 1 16)))] := hD
  subst hp
  refine lv_idiv hx hb dX10_lay_106 (by decide) ?_
  refine k_i 0 (by decide +kernel) ?_
  refine lv_istore_n (lv' := [(2, .int 0), (3, .int (-1)), (0, .ref a0), (1, .int 0)]) hx hb dX10_lay_107 rfl hl (by decide) rfl (fun ls hl => ?_)
  refine lv_aload_n hx hb dX10_lay_108 rfl (lv_at hl 2 rfl) ?_
  refine lv_aload_n hx hb dX10_lay_109 rfl (lv_at hl 2 rfl) ?_
  refine k_get hC hK hP iX10 3 15 wf_X10_122 rfl (by decide) rfl rfl dX10_lay_110 ?_
  refine lv_aload_n hx hb dX10_lay_113 rfl (lv_at hl 2 rfl) ?_
  refine k_get hC hK hP iX10 3 40 wf_X10_240 rfl (by decide) rfl rfl dX10_lay_114 ?_
  refine k_iald (v := 100) hC hK hP 1 0 rfl (by decide +kernel) (by decide) (by decide +kernel) dX10_lay_117 ?_
  refine lv_iload_n hx hb dX10_lay_118 rfl (lv_at hl 0 rfl) ?_
  refine lv_iadd hx hb dX10_lay_119 ?_
  refine k_i 100 (by decide +kernel) ?_
  refine k_put hC hK hP hD hS iX10 tyX10_ok nmX10 3 55 wf_X10_341 rfl (by decide) rfl rfl rfl rfl (Nat.le_of_ble_eq_true rfl) dX10_lay_120 (fun H locs hP hD hS => ?_)
  have hP : va_P G cl [(a37, .inl (cI, 2, .inl (upd (upd (fun _ => 0) 1 16) 0 16))), (a7, .inl (cI, 2, .inl (upd (fun _ => 0) 0 100))), (a12, .inl (cI, 2, .inl (fun _ => 0))), (a0, .inr (10, [.ref a1, .ref a2, .int 0, .int 0, .int 0, .int (-1), .int 0, .int 0, .int 0, .int 0, .long 0, .ref a3, .ref a4, .ref a5, .ref a6, .ref a7, .ref a8, .ref a9, .ref a10, .ref a11, .ref a12, .ref a13, .ref a14, .ref a15, .ref a16, .ref a17, .ref a18, .ref a19, .ref a20, .ref a21, .ref a22, .ref a23, .ref a24, .ref a25, .ref a26, .ref a27, .ref a28, .ref a29, .ref a30, .ref a31, .int 0, .int 0, .ref a32, .ref a33, .int 0, .int 0, .int 0, .int 1, .ref a34, .int 0, .ref a35, .ref a36, .ref a37, .int 1, .int x0, .int 100, .int 1, .int 0, .int 0, .int 0, .int 0, .ref a38, .int (-1), .ref a39, .ref a40, .ref a41, .ref a42, .int 0, .int 0])), (a11, .inl (cI, 4, .inl (upd (upd (fun _ => 0) 0 16) 1 16))), (a10, .inl (cI, 4, .inl (upd (upd (fun _ => 0) 0 16) 1 16)))] H := hP
  have hD : va_D A [(a37, .inl (cI, 2, .inl (upd (upd (fun _ => 0) 1 16) 0 16))), (a7, .inl (cI, 2, .inl (upd (fun _ => 0) 0 100))), (a12, .inl (cI, 2, .inl (fun _ => 0))), (a0, .inr (10, [.ref a1, .ref a2, .int 0, .int 0, .int 0, .int (-1), .int 0, .int 0, .int 0, .int 0, .long 0, .ref a3, .ref a4, .ref a5, .ref a6, .ref a7, .ref a8, .ref a9, .ref a10, .ref a11, .ref a12, .ref a13, .ref a14, .ref a15, .ref a16, .ref a17, .ref a18, .ref a19, .ref a20, .ref a21, .ref a22, .ref a23, .ref a24, .ref a25, .ref a26, .ref a27, .ref a28, .ref a29, .ref a30, .ref a31, .int 0, .int 0, .ref a32, .ref a33, .int 0, .int 0, .int 0, .int 1, .ref a34, .int 0, .ref a35, .ref a36, .ref a37, .int 1, .int x0, .int 100, .int 1, .int 0, .int 0, .int 0, .int 0, .ref a38, .int (-1), .ref a39, .ref a40, .ref a41, .ref a42, .int 0, .int 0])), (a11, .inl (cI, 4, .inl (upd (upd (fun _ => 0) 0 16) 1 16))), (a10, .inl (cI, 4, .inl (upd (upd (fun _ => 0) 0 16) 1 16)))] := hD
  refine lv_iconst (v := 1) hx hb dX10_lay_123 (by decide) ?_
  refine lv_istore_n (lv' := [(3, .int 1), (2, .int 0), (0, .ref a0), (1, .int 0)]) hx hb dX10_lay_124 rfl hl (by decide) rfl (fun ls hl => ?_)
  refine lv_iconst (v := 0) hx hb dX10_lay_125 (by decide) ?_
  refine lv_istore (lv' := [(4, .int 0), (3, .int 1), (2, .int 0), (0, .ref a0), (1, .int 0)]) hx hb dX10_lay_126 hl (by decide) rfl (fun ls hl => ?_)
  refine lv_iload hx hb dX10_lay_128 (lv_at hl 0 rfl) ?_
  refine lv_aload_n hx hb dX10_lay_130 rfl (lv_at hl 3 rfl) ?_
  refine k_ci (wr := [(a37, .inl (cI, 2, .inl (upd (upd (fun _ => 0) 1 16) 0 16))), (a7, .inl (cI, 2, .inl (upd (fun _ => 0) 0 100))), (a11, .inl (cI, 4, .inl (upd (upd (fun _ => 0) 0 16) 1 16))), (a10, .inl (cI, 4, .inl (upd (upd (fun _ => 0) 0 16) 1 16)))]) (k_rV hC hN hK hP hD (c180_X10_many l G cI cJ cB cZ a0 a1 a2 a3 a4 a5 a6 a7 a8 a9 a10 a11 a12 a13 a14 a15 a16 a17 a18 a19 a20 a21 a22 a23 a24 a25 a26 a27 a28 a29 a30 a31 a32 a33 a34 a35 a36 a37 a38 a39 a40 a41 a42 x0) [3, 2] rfl (by decide) mi_X10_many in_X10_many se_X10_many wm_X10_304 10 3 rfl rfl rfl hl.1 rfl rfl (Nat.le_of_ble_eq_true rfl) ⟨(Nat.le_of_ble_eq_true rfl), (Nat.le_of_ble_eq_true rfl)⟩ dX10_lay_131 ⟨(Nat.le_of_ble_eq_true rfl), (Nat.le_of_ble_eq_true rfl)⟩) hP hD hS hA [3, 2] [0, 1, 4, 5] rfl rfl (by decide) (by decide) (fun r6 u6 H locs hp hP hD hS => ?_)
  have hP : va_P G cl [(a37, .inl (cI, 2, .inl (upd (upd (fun _ => 0) 1 16) 0 16))), (a7, .inl (cI, 2, .inl (upd (fun _ => 0) 0 100))), (a11, .inl (cI, 4, .inl (upd (upd (fun _ => 0) 0 16) 1 16))), (a10, .inl (cI, 4, .inl (upd (upd (fun _ => 0) 0 16) 1 16))), (a0, .inr (10, [.ref a1, .ref a2, .int 0, .int 0, .int 0, .int (-1), .int 0, .int 0, .int 0, .int 0, .long 0, .ref a3, .ref a4, .ref a5, .ref a6, .ref a7, .ref a8, .ref a9, .ref a10, .ref a11, .ref a12, .ref a13, .ref a14, .ref a15, .ref a16, .ref a17, .ref a18, .ref a19, .ref a20, .ref a21, .ref a22, .ref a23, .ref a24, .ref a25, .ref a26, .ref a27, .ref a28, .ref a29, .ref a30, .ref a31, .int 0, .int 0, .ref a32, .ref a33, .int 0, .int 0, .int 0, .int 1, .ref a34, .int 0, .ref a35, .ref a36, .ref a37, .int 1, .int x0, .int 100, .int 1, .int 0, .int 0, .int 0, .int 0, .ref a38, .int (-1), .ref a39, .ref a40, .ref a41, .ref a42, .int 0, .int 0])), (a12, .inl (cI, 2, .inl (fun _ => 0)))] H := hP
  have hD : va_D A [(a37, .inl (cI, 2, .inl (upd (upd (fun _ => 0) 1 16) 0 16))), (a7, .inl (cI, 2, .inl (upd (fun _ => 0) 0 100))), (a11, .inl (cI, 4, .inl (upd (upd (fun _ => 0) 0 16) 1 16))), (a10, .inl (cI, 4, .inl (upd (upd (fun _ => 0) 0 16) 1 16))), (a0, .inr (10, [.ref a1, .ref a2, .int 0, .int 0, .int 0, .int (-1), .int 0, .int 0, .int 0, .int 0, .long 0, .ref a3, .ref a4, .ref a5, .ref a6, .ref a7, .ref a8, .ref a9, .ref a10, .ref a11, .ref a12, .ref a13, .ref a14, .ref a15, .ref a16, .ref a17, .ref a18, .ref a19, .ref a20, .ref a21, .ref a22, .ref a23, .ref a24, .ref a25, .ref a26, .ref a27, .ref a28, .ref a29, .ref a30, .ref a31, .int 0, .int 0, .ref a32, .ref a33, .int 0, .int 0, .int 0, .int 1, .ref a34, .int 0, .ref a35, .ref a36, .ref a37, .int 1, .int x0, .int 100, .int 1, .int 0, .int 0, .int 0, .int 0, .ref a38, .int (-1), .ref a39, .ref a40, .ref a41, .ref a42, .int 0, .int 0])), (a12, .inl (cI, 2, .inl (fun _ => 0)))] := hD
  subst hp
  refine lv_icmp_ge (tgt := 241) hx hb dX10_lay_134 (by decide) (fun _ => ?_) (fun c_ => absurd (by decide +kernel) c_)
  refine lv_iload_n hx hb dX10_lay_241 rfl (lv_at hl 1 rfl) ?_
  exact k_zret hC hr hlk hK hP hD hS () [4, 5, 3, 2, 0, 1] rfl (by decide) rfl rfl (Nat.le_of_ble_eq_true rfl) (Nat.le_of_ble_eq_true rfl) dX10_lay_242
set_option maxHeartbeats 4000000 in
set_option maxRecDepth 100000 in
theorem c184_X10_layFit (l : Launch) (G : va_G) (cI cJ cB cZ : ClassId) (a0 a1 a2 a3 a4 a5 a6 a7 a8 a9 a10 a11 a12 a13 a14 a15 a16 a17 a18 a19 a20 a21 a22 a23 a24 a25 a26 a27 a28 a29 a30 a31 a32 a33 a34 a35 a36 a37 a38 a39 a40 a41 a42 : Nat) (x0 : Int32) : Con l G (TY cI cJ cB cZ) yX10_layFit cX10_layFit 3 none ({ frames := 2, cells := 0, slots := 0, locals := 45 } : Room) [.ref a0, .int 0] [(a0, .inr (10, [.ref a1, .ref a2, .int 0, .int 0, .int 0, .int (-1), .int 0, .int 0, .int 0, .int 0, .long 0, .ref a3, .ref a4, .ref a5, .ref a6, .ref a7, .ref a8, .ref a9, .ref a10, .ref a11, .ref a12, .ref a13, .ref a14, .ref a15, .ref a16, .ref a17, .ref a18, .ref a19, .ref a20, .ref a21, .ref a22, .ref a23, .ref a24, .ref a25, .ref a26, .ref a27, .ref a28, .ref a29, .ref a30, .ref a31, .int 0, .int 0, .ref a32, .ref a33, .int 0, .int 0, .int 0, .int 1, .ref a34, .int 0, .ref a35, .ref a36, .ref a37, .int 1, .int x0, .int 100, .int 1, .int 0, .int 0, .int 0, .int 0, .ref a38, .int (-1), .ref a39, .ref a40, .ref a41, .ref a42, .int 0, .int 0])), (a35, .inl (cI, 300000, .inl (fun _ => 0))), (a12, .inl (cI, 2, .inl (fun _ => 0))), (a10, .inl (cI, 4, .inl (upd (upd (fun _ => 0) 0 16) 1 16))), (a11, .inl (cI, 4, .inl (upd (upd (fun _ => 0) 0 16) 1 16))), (a37, .inl (cI, 2, .inl (upd (upd (fun _ => 0) 1 16) 0 16))), (a7, .inl (cI, 2, .inl (upd (fun _ => 0) 0 100)))] (QV G (TY cI cJ cB cZ) (fun u : Unit => True) (fun u : Unit => [(a0, .inr (10, [.ref a1, .ref a2, .int 0, .int 0, .int 0, .int (-1), .int 0, .int 0, .int 0, .int 0, .long 0, .ref a3, .ref a4, .ref a5, .ref a6, .ref a7, .ref a8, .ref a9, .ref a10, .ref a11, .ref a12, .ref a13, .ref a14, .ref a15, .ref a16, .ref a17, .ref a18, .ref a19, .ref a20, .ref a21, .ref a22, .ref a23, .ref a24, .ref a25, .ref a26, .ref a27, .ref a28, .ref a29, .ref a30, .ref a31, .int 0, .int 0, .ref a32, .ref a33, .int 0, .int 0, .int 0, .int 1, .ref a34, .int 0, .ref a35, .ref a36, .ref a37, .int 1, .int x0, .int 100, .int 1, .int 0, .int 0, .int 0, .int 0, .ref a38, .int (-1), .ref a39, .ref a40, .ref a41, .ref a42, .int 0, .int 0])), (a35, .inl (cI, 300000, .inl (fun _ => 0))), (a12, .inl (cI, 2, .inl (fun _ => 0))), (a10, .inl (cI, 4, .inl (upd (upd (fun _ => 0) 0 16) 1 16))), (a11, .inl (cI, 4, .inl (upd (upd (fun _ => 0) 0 16) 1 16))), (a37, .inl (cI, 2, .inl (upd (upd (fun _ => 0) 1 16) 0 16))), (a7, .inl (cI, 2, .inl (upd (fun _ => 0) 0 100)))])) := by
  refine k_met (by decide) (Nat.le_of_ble_eq_true rfl) ?_
  intro p e s m below meth c A ls hC hr hlk hnm hN hK hA hP hD hS hl
  have hl : lv_has ls 3 [(0, .ref a0), (1, .int 0)] := hl
  obtain ⟨hx, hb, hml, hown, hts⟩ := id hC
  refine lv_aload_n hx hb dX10_layFit_0 rfl (lv_at hl 0 rfl) ?_
  refine lv_aload_n hx hb dX10_layFit_1 rfl (lv_at hl 0 rfl) ?_
  refine k_get hC hK hP iX10 0 50 wf_X10_209 rfl (by decide) rfl rfl dX10_layFit_2 ?_
  refine lv_iload_n hx hb dX10_layFit_5 rfl (lv_at hl 1 rfl) ?_
  refine k_iald (v := 0) hC hK hP 1 0 rfl (by decide +kernel) (by decide) (by decide +kernel) dX10_layFit_6 ?_
  refine k_ci (wr := [(a35, .inl (cI, 300000, .inl (fun _ => 0)))]) (k_rV hC hN hK hP hD (c183_X10_lay l G cI cJ cB cZ a0 a1 a2 a3 a4 a5 a6 a7 a8 a9 a10 a11 a12 a13 a14 a15 a16 a17 a18 a19 a20 a21 a22 a23 a24 a25 a26 a27 a28 a29 a30 a31 a32 a33 a34 a35 a36 a37 a38 a39 a40 a41 a42 x0) [0, 2, 3, 4, 5, 6] rfl (by decide) mi_X10_lay in_X10_lay se_X10_lay wm_X10_378 10 0 rfl rfl rfl hl.1 rfl rfl (Nat.le_of_ble_eq_true rfl) ⟨(Nat.le_of_ble_eq_true rfl), (Nat.le_of_ble_eq_true rfl)⟩ dX10_layFit_7 ⟨(Nat.le_of_ble_eq_true rfl), (Nat.le_of_ble_eq_true rfl)⟩) hP hD hS hA [0, 2, 3, 4, 5, 6] [1] rfl rfl (by decide) (by decide) (fun r1 u1 H locs hp hP hD hS => ?_)
  have hP : va_P G cl [(a35, .inl (cI, 300000, .inl (fun _ => 0))), (a0, .inr (10, [.ref a1, .ref a2, .int 0, .int 0, .int 0, .int (-1), .int 0, .int 0, .int 0, .int 0, .long 0, .ref a3, .ref a4, .ref a5, .ref a6, .ref a7, .ref a8, .ref a9, .ref a10, .ref a11, .ref a12, .ref a13, .ref a14, .ref a15, .ref a16, .ref a17, .ref a18, .ref a19, .ref a20, .ref a21, .ref a22, .ref a23, .ref a24, .ref a25, .ref a26, .ref a27, .ref a28, .ref a29, .ref a30, .ref a31, .int 0, .int 0, .ref a32, .ref a33, .int 0, .int 0, .int 0, .int 1, .ref a34, .int 0, .ref a35, .ref a36, .ref a37, .int 1, .int x0, .int 100, .int 1, .int 0, .int 0, .int 0, .int 0, .ref a38, .int (-1), .ref a39, .ref a40, .ref a41, .ref a42, .int 0, .int 0])), (a12, .inl (cI, 2, .inl (fun _ => 0))), (a10, .inl (cI, 4, .inl (upd (upd (fun _ => 0) 0 16) 1 16))), (a11, .inl (cI, 4, .inl (upd (upd (fun _ => 0) 0 16) 1 16))), (a37, .inl (cI, 2, .inl (upd (upd (fun _ => 0) 1 16) 0 16))), (a7, .inl (cI, 2, .inl (upd (fun _ => 0) 0 100)))] H := hP
  have hD : va_D A [(a35, .inl (cI, 300000, .inl (fun _ => 0))), (a0, .inr (10, [.ref a1, .ref a2, .int 0, .int 0, .int 0, .int (-1), .int 0, .int 0, .int 0, .int 0, .long 0, .ref a3, .ref a4, .ref a5, .ref a6, .ref a7, .ref a8, .ref a9, .ref a10, .ref a11, .ref a12, .ref a13, .ref a14, .ref a15, .ref a16, .ref a17, .ref a18, .ref a19, .ref a20, .ref a21, .ref a22, .ref a23, .ref a24, .ref a25, .ref a26, .ref a27, .ref a28, .ref a29, .ref a30, .ref a31, .int 0, .int 0, .ref a32, .ref a33, .int 0, .int 0, .int 0, .int 1, .ref a34, .int 0, .ref a35, .ref a36, .ref a37, .int 1, .int x0, .int 100, .int 1, .int 0, .int 0, .int 0, .int 0, .ref a38, .int (-1), .ref a39, .ref a40, .ref a41, .ref a42, .int 0, .int 0])), (a12, .inl (cI, 2, .inl (fun _ => 0))), (a10, .inl (cI, 4, .inl (upd (upd (fun _ => 0) 0 16) 1 16))), (a11, .inl (cI, 4, .inl (upd (upd (fun _ => 0) 0 16) 1 16))), (a37, .inl (cI, 2, .inl (upd (upd (fun _ => 0) 1 16) 0 16))), (a7, .inl (cI, 2, .inl (upd (fun _ => 0) 0 100)))] := hD
  subst hp
  refine lv_istore_n (lv' := [(2, .int 1), (0, .ref a0), (1, .int 0)]) hx hb dX10_layFit_10 rfl hl (by decide) rfl (fun ls hl => ?_)
  refine lv_aload_n hx hb dX10_layFit_11 rfl (lv_at hl 1 rfl) ?_
  refine lv_iload_n hx hb dX10_layFit_12 rfl (lv_at hl 0 rfl) ?_
  refine lv_if_eq (tgt := 23) hx hb dX10_layFit_13 (by decide) (fun c_ => absurd c_ (by decide +kernel)) (fun _ => ?_)
  refine lv_aload_n hx hb dX10_layFit_16 rfl (lv_at hl 1 rfl) ?_
  refine k_get hC hK hP iX10 1 55 wf_X10_341 rfl (by decide) rfl rfl dX10_layFit_17 ?_
  refine lv_goto (tgt := 24) hx hb dX10_layFit_20 (by decide) ?_
  refine k_put hC hK hP hD hS iX10 tyX10_ok nmX10 1 55 wf_X10_341 rfl (by decide) rfl rfl rfl rfl (Nat.le_of_ble_eq_true rfl) dX10_layFit_24 (fun H locs hP hD hS => ?_)
  have hP : va_P G cl [(a35, .inl (cI, 300000, .inl (fun _ => 0))), (a0, .inr (10, [.ref a1, .ref a2, .int 0, .int 0, .int 0, .int (-1), .int 0, .int 0, .int 0, .int 0, .long 0, .ref a3, .ref a4, .ref a5, .ref a6, .ref a7, .ref a8, .ref a9, .ref a10, .ref a11, .ref a12, .ref a13, .ref a14, .ref a15, .ref a16, .ref a17, .ref a18, .ref a19, .ref a20, .ref a21, .ref a22, .ref a23, .ref a24, .ref a25, .ref a26, .ref a27, .ref a28, .ref a29, .ref a30, .ref a31, .int 0, .int 0, .ref a32, .ref a33, .int 0, .int 0, .int 0, .int 1, .ref a34, .int 0, .ref a35, .ref a36, .ref a37, .int 1, .int x0, .int 100, .int 1, .int 0, .int 0, .int 0, .int 0, .ref a38, .int (-1), .ref a39, .ref a40, .ref a41, .ref a42, .int 0, .int 0])), (a12, .inl (cI, 2, .inl (fun _ => 0))), (a10, .inl (cI, 4, .inl (upd (upd (fun _ => 0) 0 16) 1 16))), (a11, .inl (cI, 4, .inl (upd (upd (fun _ => 0) 0 16) 1 16))), (a37, .inl (cI, 2, .inl (upd (upd (fun _ => 0) 1 16) 0 16))), (a7, .inl (cI, 2, .inl (upd (fun _ => 0) 0 100)))] H := hP
  have hD : va_D A [(a35, .inl (cI, 300000, .inl (fun _ => 0))), (a0, .inr (10, [.ref a1, .ref a2, .int 0, .int 0, .int 0, .int (-1), .int 0, .int 0, .int 0, .int 0, .long 0, .ref a3, .ref a4, .ref a5, .ref a6, .ref a7, .ref a8, .ref a9, .ref a10, .ref a11, .ref a12, .ref a13, .ref a14, .ref a15, .ref a16, .ref a17, .ref a18, .ref a19, .ref a20, .ref a21, .ref a22, .ref a23, .ref a24, .ref a25, .ref a26, .ref a27, .ref a28, .ref a29, .ref a30, .ref a31, .int 0, .int 0, .ref a32, .ref a33, .int 0, .int 0, .int 0, .int 1, .ref a34, .int 0, .ref a35, .ref a36, .ref a37, .int 1, .int x0, .int 100, .int 1, .int 0, .int 0, .int 0, .int 0, .ref a38, .int (-1), .ref a39, .ref a40, .ref a41, .ref a42, .int 0, .int 0])), (a12, .inl (cI, 2, .inl (fun _ => 0))), (a10, .inl (cI, 4, .inl (upd (upd (fun _ => 0) 0 16) 1 16))), (a11, .inl (cI, 4, .inl (upd (upd (fun _ => 0) 0 16) 1 16))), (a37, .inl (cI, 2, .inl (upd (upd (fun _ => 0) 1 16) 0 16))), (a7, .inl (cI, 2, .inl (upd (fun _ => 0) 0 100)))] := hD
  exact k_vret hC hr hlk hK hP hD hS () [1, 0, 2, 3, 4, 5, 6] rfl (by decide) trivial (Nat.le_of_ble_eq_true rfl) (Nat.le_of_ble_eq_true rfl) dX10_layFit_27
theorem dX10_liars_0 : decode cX10_liars 0 = .ok (.iconst 0, 1) := by decide +kernel
theorem dX10_liars_1 : decode cX10_liars 1 = .ok (.istore_n 1, 1) := by decide +kernel
theorem dX10_liars_2 : decode cX10_liars 2 = .ok (.iconst 0, 1) := by decide +kernel
theorem dX10_liars_3 : decode cX10_liars 3 = .ok (.istore_n 2, 1) := by decide +kernel
theorem dX10_liars_4 : decode cX10_liars 4 = .ok (.iload_n 2, 1) := by decide +kernel
theorem dX10_liars_5 : decode cX10_liars 5 = .ok (.aload_n 0, 1) := by decide +kernel
theorem dX10_liars_6 : decode cX10_liars 6 = .ok (.invokevirtual 304, 3) := by decide +kernel
theorem dX10_liars_9 : decode cX10_liars 9 = .ok (.if_icmp .ge 33, 3) := by decide +kernel
theorem dX10_liars_42 : decode cX10_liars 42 = .ok (.iload_n 1, 1) := by decide +kernel
theorem dX10_liars_43 : decode cX10_liars 43 = .ok (.ireturn, 1) := by decide +kernel
set_option maxHeartbeats 4000000 in
set_option maxRecDepth 100000 in
theorem c185_X10_liars (l : Launch) (G : va_G) (cI cJ cB cZ : ClassId) (a0 a1 a2 a3 a4 a5 a6 a7 a8 a9 a10 a11 a12 a13 a14 a15 a16 a17 a18 a19 a20 a21 a22 a23 a24 a25 a26 a27 a28 a29 a30 a31 a32 a33 a34 a35 a36 a37 a38 a39 a40 a41 a42 : Nat) (x0 : Int32) : Con l G (TY cI cJ cB cZ) yX10_liars cX10_liars 3 (some .int) ({ frames := 1, cells := 0, slots := 0, locals := 20 } : Room) [.ref a0] [(a0, .inr (10, [.ref a1, .ref a2, .int 0, .int 0, .int 0, .int (-1), .int 0, .int 0, .int 0, .int 0, .long 0, .ref a3, .ref a4, .ref a5, .ref a6, .ref a7, .ref a8, .ref a9, .ref a10, .ref a11, .ref a12, .ref a13, .ref a14, .ref a15, .ref a16, .ref a17, .ref a18, .ref a19, .ref a20, .ref a21, .ref a22, .ref a23, .ref a24, .ref a25, .ref a26, .ref a27, .ref a28, .ref a29, .ref a30, .ref a31, .int 0, .int 0, .ref a32, .ref a33, .int 0, .int 0, .int 0, .int 1, .ref a34, .int 0, .ref a35, .ref a36, .ref a37, .int 1, .int x0, .int 100, .int 1, .int 0, .int 0, .int 0, .int 0, .ref a38, .int (-1), .ref a39, .ref a40, .ref a41, .ref a42, .int 0, .int 0])), (a12, .inl (cI, 2, .inl (fun _ => 0)))] (QI G (TY cI cJ cB cZ) (fun (r : Int32) (u : Unit) => r = 0) (fun u : Unit => [(a0, .inr (10, [.ref a1, .ref a2, .int 0, .int 0, .int 0, .int (-1), .int 0, .int 0, .int 0, .int 0, .long 0, .ref a3, .ref a4, .ref a5, .ref a6, .ref a7, .ref a8, .ref a9, .ref a10, .ref a11, .ref a12, .ref a13, .ref a14, .ref a15, .ref a16, .ref a17, .ref a18, .ref a19, .ref a20, .ref a21, .ref a22, .ref a23, .ref a24, .ref a25, .ref a26, .ref a27, .ref a28, .ref a29, .ref a30, .ref a31, .int 0, .int 0, .ref a32, .ref a33, .int 0, .int 0, .int 0, .int 1, .ref a34, .int 0, .ref a35, .ref a36, .ref a37, .int 1, .int x0, .int 100, .int 1, .int 0, .int 0, .int 0, .int 0, .ref a38, .int (-1), .ref a39, .ref a40, .ref a41, .ref a42, .int 0, .int 0])), (a12, .inl (cI, 2, .inl (fun _ => 0)))])) := by
  refine k_met (by decide) (Nat.le_of_ble_eq_true rfl) ?_
  intro p e s m below meth c A ls hC hr hlk hnm hN hK hA hP hD hS hl
  have hl : lv_has ls 3 [(0, .ref a0)] := hl
  obtain ⟨hx, hb, hml, hown, hts⟩ := id hC
  refine lv_iconst (v := 0) hx hb dX10_liars_0 (by decide) ?_
  refine lv_istore_n (lv' := [(1, .int 0), (0, .ref a0)]) hx hb dX10_liars_1 rfl hl (by decide) rfl (fun ls hl => ?_)
  refine lv_iconst (v := 0) hx hb dX10_liars_2 (by decide) ?_
  refine lv_istore_n (lv' := [(2, .int 0), (1, .int 0), (0, .ref a0)]) hx hb dX10_liars_3 rfl hl (by decide) rfl (fun ls hl => ?_)
  refine lv_iload_n hx hb dX10_liars_4 rfl (lv_at hl 0 rfl) ?_
  refine lv_aload_n hx hb dX10_liars_5 rfl (lv_at hl 2 rfl) ?_
  refine k_ci (wr := []) (k_rV hC hN hK hP hD (c180_X10_many l G cI cJ cB cZ a0 a1 a2 a3 a4 a5 a6 a7 a8 a9 a10 a11 a12 a13 a14 a15 a16 a17 a18 a19 a20 a21 a22 a23 a24 a25 a26 a27 a28 a29 a30 a31 a32 a33 a34 a35 a36 a37 a38 a39 a40 a41 a42 x0) [0, 1] rfl (by decide) mi_X10_many in_X10_many se_X10_many wm_X10_304 10 0 rfl rfl rfl hl.1 rfl rfl (Nat.le_of_ble_eq_true rfl) ⟨(Nat.le_of_ble_eq_true rfl), (Nat.le_of_ble_eq_true rfl)⟩ dX10_liars_6 ⟨(Nat.le_of_ble_eq_true rfl), (Nat.le_of_ble_eq_true rfl)⟩) hP hD hS hA [0, 1] [] rfl rfl (by decide) (by decide) (fun r1 u1 H locs hp hP hD hS => ?_)
  have hP : va_P G cl [(a0, .inr (10, [.ref a1, .ref a2, .int 0, .int 0, .int 0, .int (-1), .int 0, .int 0, .int 0, .int 0, .long 0, .ref a3, .ref a4, .ref a5, .ref a6, .ref a7, .ref a8, .ref a9, .ref a10, .ref a11, .ref a12, .ref a13, .ref a14, .ref a15, .ref a16, .ref a17, .ref a18, .ref a19, .ref a20, .ref a21, .ref a22, .ref a23, .ref a24, .ref a25, .ref a26, .ref a27, .ref a28, .ref a29, .ref a30, .ref a31, .int 0, .int 0, .ref a32, .ref a33, .int 0, .int 0, .int 0, .int 1, .ref a34, .int 0, .ref a35, .ref a36, .ref a37, .int 1, .int x0, .int 100, .int 1, .int 0, .int 0, .int 0, .int 0, .ref a38, .int (-1), .ref a39, .ref a40, .ref a41, .ref a42, .int 0, .int 0])), (a12, .inl (cI, 2, .inl (fun _ => 0)))] H := hP
  have hD : va_D A [(a0, .inr (10, [.ref a1, .ref a2, .int 0, .int 0, .int 0, .int (-1), .int 0, .int 0, .int 0, .int 0, .long 0, .ref a3, .ref a4, .ref a5, .ref a6, .ref a7, .ref a8, .ref a9, .ref a10, .ref a11, .ref a12, .ref a13, .ref a14, .ref a15, .ref a16, .ref a17, .ref a18, .ref a19, .ref a20, .ref a21, .ref a22, .ref a23, .ref a24, .ref a25, .ref a26, .ref a27, .ref a28, .ref a29, .ref a30, .ref a31, .int 0, .int 0, .ref a32, .ref a33, .int 0, .int 0, .int 0, .int 1, .ref a34, .int 0, .ref a35, .ref a36, .ref a37, .int 1, .int x0, .int 100, .int 1, .int 0, .int 0, .int 0, .int 0, .ref a38, .int (-1), .ref a39, .ref a40, .ref a41, .ref a42, .int 0, .int 0])), (a12, .inl (cI, 2, .inl (fun _ => 0)))] := hD
  subst hp
  refine lv_icmp_ge (tgt := 42) hx hb dX10_liars_9 (by decide) (fun _ => ?_) (fun c_ => absurd (by decide +kernel) c_)
  refine lv_iload_n hx hb dX10_liars_42 rfl (lv_at hl 1 rfl) ?_
  exact k_iret hC hr hlk hK hP hD hS () [0, 1] rfl (by decide) rfl (Nat.le_of_ble_eq_true rfl) (Nat.le_of_ble_eq_true rfl) dX10_liars_43
theorem dX10_bitsOf_0 : decode cX10_bitsOf 0 = .ok (.iconst 0, 1) := by decide +kernel
theorem dX10_bitsOf_1 : decode cX10_bitsOf 1 = .ok (.istore_n 1, 1) := by decide +kernel
theorem dX10_bitsOf_2 : decode cX10_bitsOf 2 = .ok (.iconst 0, 1) := by decide +kernel
theorem dX10_bitsOf_3 : decode cX10_bitsOf 3 = .ok (.istore_n 2, 1) := by decide +kernel
theorem dX10_bitsOf_4 : decode cX10_bitsOf 4 = .ok (.iload_n 2, 1) := by decide +kernel
theorem dX10_bitsOf_5 : decode cX10_bitsOf 5 = .ok (.bipush 10, 2) := by decide +kernel
theorem dX10_bitsOf_7 : decode cX10_bitsOf 7 = .ok (.if_icmp .ge 17, 3) := by decide +kernel
theorem dX10_bitsOf_10 : decode cX10_bitsOf 10 = .ok (.iload_n 1, 1) := by decide +kernel
theorem dX10_bitsOf_11 : decode cX10_bitsOf 11 = .ok (.iload_n 0, 1) := by decide +kernel
theorem dX10_bitsOf_12 : decode cX10_bitsOf 12 = .ok (.iload_n 2, 1) := by decide +kernel
theorem dX10_bitsOf_13 : decode cX10_bitsOf 13 = .ok (.ishr, 1) := by decide +kernel
theorem dX10_bitsOf_14 : decode cX10_bitsOf 14 = .ok (.iconst 1, 1) := by decide +kernel
theorem dX10_bitsOf_15 : decode cX10_bitsOf 15 = .ok (.iand, 1) := by decide +kernel
theorem dX10_bitsOf_16 : decode cX10_bitsOf 16 = .ok (.iadd, 1) := by decide +kernel
theorem dX10_bitsOf_17 : decode cX10_bitsOf 17 = .ok (.istore_n 1, 1) := by decide +kernel
theorem dX10_bitsOf_18 : decode cX10_bitsOf 18 = .ok (.iinc 2 1, 3) := by decide +kernel
theorem dX10_bitsOf_21 : decode cX10_bitsOf 21 = .ok (.goto (-17), 3) := by decide +kernel
theorem dX10_bitsOf_24 : decode cX10_bitsOf 24 = .ok (.iload_n 1, 1) := by decide +kernel
theorem dX10_bitsOf_25 : decode cX10_bitsOf 25 = .ok (.ireturn, 1) := by decide +kernel
set_option maxHeartbeats 4000000 in
set_option maxRecDepth 100000 in
theorem c186_X10_bitsOf (l : Launch) (G : va_G) (cI cJ cB cZ : ClassId) : Con l G (TY cI cJ cB cZ) yX10_bitsOf cX10_bitsOf 3 (some .int) ({ frames := 0, cells := 0, slots := 0, locals := 0 } : Room) [.int 0] [] (QI G (TY cI cJ cB cZ) (fun (r : Int32) (u : Unit) => r = 0) (fun u : Unit => [])) := by
  refine k_met (by decide) (Nat.le_of_ble_eq_true rfl) ?_
  intro p e s m below meth c A ls hC hr hlk hnm hN hK hA hP hD hS hl
  have hl : lv_has ls 3 [(0, .int 0)] := hl
  obtain ⟨hx, hb, hml, hown, hts⟩ := id hC
  refine lv_iconst (v := 0) hx hb dX10_bitsOf_0 (by decide) ?_
  refine lv_istore_n (lv' := [(1, .int 0), (0, .int 0)]) hx hb dX10_bitsOf_1 rfl hl (by decide) rfl (fun ls hl => ?_)
  refine lv_iconst (v := 0) hx hb dX10_bitsOf_2 (by decide) ?_
  refine lv_istore_n (lv' := [(2, .int 0), (1, .int 0), (0, .int 0)]) hx hb dX10_bitsOf_3 rfl hl (by decide) rfl (fun ls hl => ?_)
  refine lv_iload_n hx hb dX10_bitsOf_4 rfl (lv_at hl 0 rfl) ?_
  refine lv_bipush (v := 10) hx hb dX10_bitsOf_5 (by decide) ?_
  refine lv_icmp_ge (tgt := 24) hx hb dX10_bitsOf_7 (by decide) (fun c_ => absurd c_ (by decide +kernel)) (fun _ => ?_)
  refine lv_iload_n hx hb dX10_bitsOf_10 rfl (lv_at hl 1 rfl) ?_
  refine lv_iload_n hx hb dX10_bitsOf_11 rfl (lv_at hl 2 rfl) ?_
  refine lv_iload_n hx hb dX10_bitsOf_12 rfl (lv_at hl 0 rfl) ?_
  refine lv_ishr hx hb dX10_bitsOf_13 ?_
  refine k_i 0 (by decide +kernel) ?_
  refine lv_iconst (v := 1) hx hb dX10_bitsOf_14 (by decide) ?_
  refine lv_iand hx hb dX10_bitsOf_15 ?_
  refine k_i 0 (by decide +kernel) ?_
  refine lv_iadd hx hb dX10_bitsOf_16 ?_
  refine k_i 0 (by decide +kernel) ?_
  refine lv_istore_n (lv' := [(1, .int 0), (2, .int 0), (0, .int 0)]) hx hb dX10_bitsOf_17 rfl hl (by decide) rfl (fun ls hl => ?_)
  refine lv_iinc (v := 1) (lv' := [(2, .int 1), (1, .int 0), (0, .int 0)]) hx hb dX10_bitsOf_18 hl (k := 1) rfl (by decide +kernel) (by decide) rfl (fun ls hl => ?_)
  refine lv_goto (tgt := 4) hx hb dX10_bitsOf_21 (by decide) ?_
  refine lv_iload_n hx hb dX10_bitsOf_4 rfl (lv_at hl 0 rfl) ?_
  refine lv_bipush (v := 10) hx hb dX10_bitsOf_5 (by decide) ?_
  refine lv_icmp_ge (tgt := 24) hx hb dX10_bitsOf_7 (by decide) (fun c_ => absurd c_ (by decide +kernel)) (fun _ => ?_)
  refine lv_iload_n hx hb dX10_bitsOf_10 rfl (lv_at hl 1 rfl) ?_
  refine lv_iload_n hx hb dX10_bitsOf_11 rfl (lv_at hl 2 rfl) ?_
  refine lv_iload_n hx hb dX10_bitsOf_12 rfl (lv_at hl 0 rfl) ?_
  refine lv_ishr hx hb dX10_bitsOf_13 ?_
  refine k_i 0 (by decide +kernel) ?_
  refine lv_iconst (v := 1) hx hb dX10_bitsOf_14 (by decide) ?_
  refine lv_iand hx hb dX10_bitsOf_15 ?_
  refine k_i 0 (by decide +kernel) ?_
  refine lv_iadd hx hb dX10_bitsOf_16 ?_
  refine k_i 0 (by decide +kernel) ?_
  refine lv_istore_n (lv' := [(1, .int 0), (2, .int 1), (0, .int 0)]) hx hb dX10_bitsOf_17 rfl hl (by decide) rfl (fun ls hl => ?_)
  refine lv_iinc (v := 2) (lv' := [(2, .int 2), (1, .int 0), (0, .int 0)]) hx hb dX10_bitsOf_18 hl (k := 1) rfl (by decide +kernel) (by decide) rfl (fun ls hl => ?_)
  refine lv_goto (tgt := 4) hx hb dX10_bitsOf_21 (by decide) ?_
  refine lv_iload_n hx hb dX10_bitsOf_4 rfl (lv_at hl 0 rfl) ?_
  refine lv_bipush (v := 10) hx hb dX10_bitsOf_5 (by decide) ?_
  refine lv_icmp_ge (tgt := 24) hx hb dX10_bitsOf_7 (by decide) (fun c_ => absurd c_ (by decide +kernel)) (fun _ => ?_)
  refine lv_iload_n hx hb dX10_bitsOf_10 rfl (lv_at hl 1 rfl) ?_
  refine lv_iload_n hx hb dX10_bitsOf_11 rfl (lv_at hl 2 rfl) ?_
  refine lv_iload_n hx hb dX10_bitsOf_12 rfl (lv_at hl 0 rfl) ?_
  refine lv_ishr hx hb dX10_bitsOf_13 ?_
  refine k_i 0 (by decide +kernel) ?_
  refine lv_iconst (v := 1) hx hb dX10_bitsOf_14 (by decide) ?_
  refine lv_iand hx hb dX10_bitsOf_15 ?_
  refine k_i 0 (by decide +kernel) ?_
  refine lv_iadd hx hb dX10_bitsOf_16 ?_
  refine k_i 0 (by decide +kernel) ?_
  refine lv_istore_n (lv' := [(1, .int 0), (2, .int 2), (0, .int 0)]) hx hb dX10_bitsOf_17 rfl hl (by decide) rfl (fun ls hl => ?_)
  refine lv_iinc (v := 3) (lv' := [(2, .int 3), (1, .int 0), (0, .int 0)]) hx hb dX10_bitsOf_18 hl (k := 1) rfl (by decide +kernel) (by decide) rfl (fun ls hl => ?_)
  refine lv_goto (tgt := 4) hx hb dX10_bitsOf_21 (by decide) ?_
  refine lv_iload_n hx hb dX10_bitsOf_4 rfl (lv_at hl 0 rfl) ?_
  refine lv_bipush (v := 10) hx hb dX10_bitsOf_5 (by decide) ?_
  refine lv_icmp_ge (tgt := 24) hx hb dX10_bitsOf_7 (by decide) (fun c_ => absurd c_ (by decide +kernel)) (fun _ => ?_)
  refine lv_iload_n hx hb dX10_bitsOf_10 rfl (lv_at hl 1 rfl) ?_
  refine lv_iload_n hx hb dX10_bitsOf_11 rfl (lv_at hl 2 rfl) ?_
  refine lv_iload_n hx hb dX10_bitsOf_12 rfl (lv_at hl 0 rfl) ?_
  refine lv_ishr hx hb dX10_bitsOf_13 ?_
  refine k_i 0 (by decide +kernel) ?_
  refine lv_iconst (v := 1) hx hb dX10_bitsOf_14 (by decide) ?_
  refine lv_iand hx hb dX10_bitsOf_15 ?_
  refine k_i 0 (by decide +kernel) ?_
  refine lv_iadd hx hb dX10_bitsOf_16 ?_
  refine k_i 0 (by decide +kernel) ?_
  refine lv_istore_n (lv' := [(1, .int 0), (2, .int 3), (0, .int 0)]) hx hb dX10_bitsOf_17 rfl hl (by decide) rfl (fun ls hl => ?_)
  refine lv_iinc (v := 4) (lv' := [(2, .int 4), (1, .int 0), (0, .int 0)]) hx hb dX10_bitsOf_18 hl (k := 1) rfl (by decide +kernel) (by decide) rfl (fun ls hl => ?_)
  refine lv_goto (tgt := 4) hx hb dX10_bitsOf_21 (by decide) ?_
  refine lv_iload_n hx hb dX10_bitsOf_4 rfl (lv_at hl 0 rfl) ?_
  refine lv_bipush (v := 10) hx hb dX10_bitsOf_5 (by decide) ?_
  refine lv_icmp_ge (tgt := 24) hx hb dX10_bitsOf_7 (by decide) (fun c_ => absurd c_ (by decide +kernel)) (fun _ => ?_)
  refine lv_iload_n hx hb dX10_bitsOf_10 rfl (lv_at hl 1 rfl) ?_
  refine lv_iload_n hx hb dX10_bitsOf_11 rfl (lv_at hl 2 rfl) ?_
  refine lv_iload_n hx hb dX10_bitsOf_12 rfl (lv_at hl 0 rfl) ?_
  refine lv_ishr hx hb dX10_bitsOf_13 ?_
  refine k_i 0 (by decide +kernel) ?_
  refine lv_iconst (v := 1) hx hb dX10_bitsOf_14 (by decide) ?_
  refine lv_iand hx hb dX10_bitsOf_15 ?_
  refine k_i 0 (by decide +kernel) ?_
  refine lv_iadd hx hb dX10_bitsOf_16 ?_
  refine k_i 0 (by decide +kernel) ?_
  refine lv_istore_n (lv' := [(1, .int 0), (2, .int 4), (0, .int 0)]) hx hb dX10_bitsOf_17 rfl hl (by decide) rfl (fun ls hl => ?_)
  refine lv_iinc (v := 5) (lv' := [(2, .int 5), (1, .int 0), (0, .int 0)]) hx hb dX10_bitsOf_18 hl (k := 1) rfl (by decide +kernel) (by decide) rfl (fun ls hl => ?_)
  refine lv_goto (tgt := 4) hx hb dX10_bitsOf_21 (by decide) ?_
  refine lv_iload_n hx hb dX10_bitsOf_4 rfl (lv_at hl 0 rfl) ?_
  refine lv_bipush (v := 10) hx hb dX10_bitsOf_5 (by decide) ?_
  refine lv_icmp_ge (tgt := 24) hx hb dX10_bitsOf_7 (by decide) (fun c_ => absurd c_ (by decide +kernel)) (fun _ => ?_)
  refine lv_iload_n hx hb dX10_bitsOf_10 rfl (lv_at hl 1 rfl) ?_
  refine lv_iload_n hx hb dX10_bitsOf_11 rfl (lv_at hl 2 rfl) ?_
  refine lv_iload_n hx hb dX10_bitsOf_12 rfl (lv_at hl 0 rfl) ?_
  refine lv_ishr hx hb dX10_bitsOf_13 ?_
  refine k_i 0 (by decide +kernel) ?_
  refine lv_iconst (v := 1) hx hb dX10_bitsOf_14 (by decide) ?_
  refine lv_iand hx hb dX10_bitsOf_15 ?_
  refine k_i 0 (by decide +kernel) ?_
  refine lv_iadd hx hb dX10_bitsOf_16 ?_
  refine k_i 0 (by decide +kernel) ?_
  refine lv_istore_n (lv' := [(1, .int 0), (2, .int 5), (0, .int 0)]) hx hb dX10_bitsOf_17 rfl hl (by decide) rfl (fun ls hl => ?_)
  refine lv_iinc (v := 6) (lv' := [(2, .int 6), (1, .int 0), (0, .int 0)]) hx hb dX10_bitsOf_18 hl (k := 1) rfl (by decide +kernel) (by decide) rfl (fun ls hl => ?_)
  refine lv_goto (tgt := 4) hx hb dX10_bitsOf_21 (by decide) ?_
  refine lv_iload_n hx hb dX10_bitsOf_4 rfl (lv_at hl 0 rfl) ?_
  refine lv_bipush (v := 10) hx hb dX10_bitsOf_5 (by decide) ?_
  refine lv_icmp_ge (tgt := 24) hx hb dX10_bitsOf_7 (by decide) (fun c_ => absurd c_ (by decide +kernel)) (fun _ => ?_)
  refine lv_iload_n hx hb dX10_bitsOf_10 rfl (lv_at hl 1 rfl) ?_
  refine lv_iload_n hx hb dX10_bitsOf_11 rfl (lv_at hl 2 rfl) ?_
  refine lv_iload_n hx hb dX10_bitsOf_12 rfl (lv_at hl 0 rfl) ?_
  refine lv_ishr hx hb dX10_bitsOf_13 ?_
  refine k_i 0 (by decide +kernel) ?_
  refine lv_iconst (v := 1) hx hb dX10_bitsOf_14 (by decide) ?_
  refine lv_iand hx hb dX10_bitsOf_15 ?_
  refine k_i 0 (by decide +kernel) ?_
  refine lv_iadd hx hb dX10_bitsOf_16 ?_
  refine k_i 0 (by decide +kernel) ?_
  refine lv_istore_n (lv' := [(1, .int 0), (2, .int 6), (0, .int 0)]) hx hb dX10_bitsOf_17 rfl hl (by decide) rfl (fun ls hl => ?_)
  refine lv_iinc (v := 7) (lv' := [(2, .int 7), (1, .int 0), (0, .int 0)]) hx hb dX10_bitsOf_18 hl (k := 1) rfl (by decide +kernel) (by decide) rfl (fun ls hl => ?_)
  refine lv_goto (tgt := 4) hx hb dX10_bitsOf_21 (by decide) ?_
  refine lv_iload_n hx hb dX10_bitsOf_4 rfl (lv_at hl 0 rfl) ?_
  refine lv_bipush (v := 10) hx hb dX10_bitsOf_5 (by decide) ?_
  refine lv_icmp_ge (tgt := 24) hx hb dX10_bitsOf_7 (by decide) (fun c_ => absurd c_ (by decide +kernel)) (fun _ => ?_)
  refine lv_iload_n hx hb dX10_bitsOf_10 rfl (lv_at hl 1 rfl) ?_
  refine lv_iload_n hx hb dX10_bitsOf_11 rfl (lv_at hl 2 rfl) ?_
  refine lv_iload_n hx hb dX10_bitsOf_12 rfl (lv_at hl 0 rfl) ?_
  refine lv_ishr hx hb dX10_bitsOf_13 ?_
  refine k_i 0 (by decide +kernel) ?_
  refine lv_iconst (v := 1) hx hb dX10_bitsOf_14 (by decide) ?_
  refine lv_iand hx hb dX10_bitsOf_15 ?_
  refine k_i 0 (by decide +kernel) ?_
  refine lv_iadd hx hb dX10_bitsOf_16 ?_
  refine k_i 0 (by decide +kernel) ?_
  refine lv_istore_n (lv' := [(1, .int 0), (2, .int 7), (0, .int 0)]) hx hb dX10_bitsOf_17 rfl hl (by decide) rfl (fun ls hl => ?_)
  refine lv_iinc (v := 8) (lv' := [(2, .int 8), (1, .int 0), (0, .int 0)]) hx hb dX10_bitsOf_18 hl (k := 1) rfl (by decide +kernel) (by decide) rfl (fun ls hl => ?_)
  refine lv_goto (tgt := 4) hx hb dX10_bitsOf_21 (by decide) ?_
  refine lv_iload_n hx hb dX10_bitsOf_4 rfl (lv_at hl 0 rfl) ?_
  refine lv_bipush (v := 10) hx hb dX10_bitsOf_5 (by decide) ?_
  refine lv_icmp_ge (tgt := 24) hx hb dX10_bitsOf_7 (by decide) (fun c_ => absurd c_ (by decide +kernel)) (fun _ => ?_)
  refine lv_iload_n hx hb dX10_bitsOf_10 rfl (lv_at hl 1 rfl) ?_
  refine lv_iload_n hx hb dX10_bitsOf_11 rfl (lv_at hl 2 rfl) ?_
  refine lv_iload_n hx hb dX10_bitsOf_12 rfl (lv_at hl 0 rfl) ?_
  refine lv_ishr hx hb dX10_bitsOf_13 ?_
  refine k_i 0 (by decide +kernel) ?_
  refine lv_iconst (v := 1) hx hb dX10_bitsOf_14 (by decide) ?_
  refine lv_iand hx hb dX10_bitsOf_15 ?_
  refine k_i 0 (by decide +kernel) ?_
  refine lv_iadd hx hb dX10_bitsOf_16 ?_
  refine k_i 0 (by decide +kernel) ?_
  refine lv_istore_n (lv' := [(1, .int 0), (2, .int 8), (0, .int 0)]) hx hb dX10_bitsOf_17 rfl hl (by decide) rfl (fun ls hl => ?_)
  refine lv_iinc (v := 9) (lv' := [(2, .int 9), (1, .int 0), (0, .int 0)]) hx hb dX10_bitsOf_18 hl (k := 1) rfl (by decide +kernel) (by decide) rfl (fun ls hl => ?_)
  refine lv_goto (tgt := 4) hx hb dX10_bitsOf_21 (by decide) ?_
  refine lv_iload_n hx hb dX10_bitsOf_4 rfl (lv_at hl 0 rfl) ?_
  refine lv_bipush (v := 10) hx hb dX10_bitsOf_5 (by decide) ?_
  refine lv_icmp_ge (tgt := 24) hx hb dX10_bitsOf_7 (by decide) (fun c_ => absurd c_ (by decide +kernel)) (fun _ => ?_)
  refine lv_iload_n hx hb dX10_bitsOf_10 rfl (lv_at hl 1 rfl) ?_
  refine lv_iload_n hx hb dX10_bitsOf_11 rfl (lv_at hl 2 rfl) ?_
  refine lv_iload_n hx hb dX10_bitsOf_12 rfl (lv_at hl 0 rfl) ?_
  refine lv_ishr hx hb dX10_bitsOf_13 ?_
  refine k_i 0 (by decide +kernel) ?_
  refine lv_iconst (v := 1) hx hb dX10_bitsOf_14 (by decide) ?_
  refine lv_iand hx hb dX10_bitsOf_15 ?_
  refine k_i 0 (by decide +kernel) ?_
  refine lv_iadd hx hb dX10_bitsOf_16 ?_
  refine k_i 0 (by decide +kernel) ?_
  refine lv_istore_n (lv' := [(1, .int 0), (2, .int 9), (0, .int 0)]) hx hb dX10_bitsOf_17 rfl hl (by decide) rfl (fun ls hl => ?_)
  refine lv_iinc (v := 10) (lv' := [(2, .int 10), (1, .int 0), (0, .int 0)]) hx hb dX10_bitsOf_18 hl (k := 1) rfl (by decide +kernel) (by decide) rfl (fun ls hl => ?_)
  refine lv_goto (tgt := 4) hx hb dX10_bitsOf_21 (by decide) ?_
  refine lv_iload_n hx hb dX10_bitsOf_4 rfl (lv_at hl 0 rfl) ?_
  refine lv_bipush (v := 10) hx hb dX10_bitsOf_5 (by decide) ?_
  refine lv_icmp_ge (tgt := 24) hx hb dX10_bitsOf_7 (by decide) (fun _ => ?_) (fun c_ => absurd (by decide +kernel) c_)
  refine lv_iload_n hx hb dX10_bitsOf_24 rfl (lv_at hl 1 rfl) ?_
  exact k_iret hC hr hlk hK hP hD hS () [] rfl (by decide) rfl (Nat.le_of_ble_eq_true rfl) (Nat.le_of_ble_eq_true rfl) dX10_bitsOf_25
theorem dX10_layLiars_0 : decode cX10_layLiars 0 = .ok (.aload_n 0, 1) := by decide +kernel
theorem dX10_layLiars_1 : decode cX10_layLiars 1 = .ok (.iconst (-1), 1) := by decide +kernel
theorem dX10_layLiars_2 : decode cX10_layLiars 2 = .ok (.putfield 421, 3) := by decide +kernel
set_option maxRecDepth 100000 in
theorem wf_X10_421 : Cond.fieldLink RX10 421 "StoneTrustModel" "fewest" "I" ∈ gw := gm (List.mem_of_getElem? (i := 1317) (by decide +kernel)) rfl
theorem dX10_layLiars_5 : decode cX10_layLiars 5 = .ok (.iconst 0, 1) := by decide +kernel
theorem dX10_layLiars_6 : decode cX10_layLiars 6 = .ok (.istore_n 1, 1) := by decide +kernel
theorem dX10_layLiars_7 : decode cX10_layLiars 7 = .ok (.iload_n 1, 1) := by decide +kernel
theorem dX10_layLiars_8 : decode cX10_layLiars 8 = .ok (.bipush 64, 2) := by decide +kernel
theorem dX10_layLiars_10 : decode cX10_layLiars 10 = .ok (.if_icmp .ge 16, 3) := by decide +kernel
theorem dX10_layLiars_13 : decode cX10_layLiars 13 = .ok (.aload_n 0, 1) := by decide +kernel
theorem dX10_layLiars_14 : decode cX10_layLiars 14 = .ok (.getfield 218, 3) := by decide +kernel
theorem dX10_layLiars_17 : decode cX10_layLiars 17 = .ok (.iload_n 1, 1) := by decide +kernel
theorem dX10_layLiars_18 : decode cX10_layLiars 18 = .ok (.iconst 0, 1) := by decide +kernel
theorem dX10_layLiars_19 : decode cX10_layLiars 19 = .ok (.bastore, 1) := by decide +kernel
theorem dX10_layLiars_20 : decode cX10_layLiars 20 = .ok (.iinc 1 1, 3) := by decide +kernel
theorem dX10_layLiars_23 : decode cX10_layLiars 23 = .ok (.goto (-16), 3) := by decide +kernel
theorem dX10_layLiars_26 : decode cX10_layLiars 26 = .ok (.iconst 0, 1) := by decide +kernel
theorem dX10_layLiars_27 : decode cX10_layLiars 27 = .ok (.istore_n 1, 1) := by decide +kernel
theorem dX10_layLiars_28 : decode cX10_layLiars 28 = .ok (.iload_n 1, 1) := by decide +kernel
theorem dX10_layLiars_29 : decode cX10_layLiars 29 = .ok (.aload_n 0, 1) := by decide +kernel
theorem dX10_layLiars_30 : decode cX10_layLiars 30 = .ok (.getfield 369, 3) := by decide +kernel
theorem dX10_layLiars_33 : decode cX10_layLiars 33 = .ok (.if_icmp .ge 55, 3) := by decide +kernel
theorem dX10_layLiars_36 : decode cX10_layLiars 36 = .ok (.aload_n 0, 1) := by decide +kernel
theorem dX10_layLiars_37 : decode cX10_layLiars 37 = .ok (.iload_n 1, 1) := by decide +kernel
theorem dX10_layLiars_38 : decode cX10_layLiars 38 = .ok (.invokevirtual 390, 3) := by decide +kernel
theorem dX10_layLiars_41 : decode cX10_layLiars 41 = .ok (.aload_n 0, 1) := by decide +kernel
theorem dX10_layLiars_42 : decode cX10_layLiars 42 = .ok (.invokevirtual 418, 3) := by decide +kernel
set_option maxRecDepth 100000 in
theorem wm_X10_418 : Cond.methodLink RX10 418 yX10_liars ∈ gw := gm (List.mem_of_getElem? (i := 1711) (by decide +kernel)) rfl
set_option maxRecDepth 100000 in
theorem mi_X10_liars : MI yX10_liars cX10_liars 3 (some .int) 0 := ⟨gm (List.mem_of_getElem? (i := 1714) rfl) rfl, gm (List.mem_of_getElem? (i := 124) (by decide +kernel)) rfl, by decide, by decide, by decide +kernel⟩
set_option maxRecDepth 100000 in
theorem in_X10_liars : Cond.instanceMethod yX10_liars ∈ gw := gm (List.mem_of_getElem? (i := 1713) (by decide +kernel)) rfl
set_option maxRecDepth 100000 in
theorem se_X10_liars : Cond.selects yX10_liars.cls yX10_liars yX10_liars ∈ gw := gm (List.mem_of_getElem? (i := 96) (by decide +kernel)) rfl
theorem dX10_layLiars_45 : decode cX10_layLiars 45 = .ok (.istore_n 2, 1) := by decide +kernel
theorem dX10_layLiars_46 : decode cX10_layLiars 46 = .ok (.aload_n 0, 1) := by decide +kernel
theorem dX10_layLiars_47 : decode cX10_layLiars 47 = .ok (.getfield 218, 3) := by decide +kernel
theorem dX10_layLiars_50 : decode cX10_layLiars 50 = .ok (.iload_n 2, 1) := by decide +kernel
theorem dX10_layLiars_51 : decode cX10_layLiars 51 = .ok (.iconst 1, 1) := by decide +kernel
theorem dX10_layLiars_52 : decode cX10_layLiars 52 = .ok (.bastore, 1) := by decide +kernel
theorem dX10_layLiars_53 : decode cX10_layLiars 53 = .ok (.aload_n 0, 1) := by decide +kernel
theorem dX10_layLiars_54 : decode cX10_layLiars 54 = .ok (.aload_n 0, 1) := by decide +kernel
theorem dX10_layLiars_55 : decode cX10_layLiars 55 = .ok (.getfield 421, 3) := by decide +kernel
theorem dX10_layLiars_58 : decode cX10_layLiars 58 = .ok (.ifCond .ge 10, 3) := by decide +kernel
theorem dX10_layLiars_61 : decode cX10_layLiars 61 = .ok (.iload_n 2, 1) := by decide +kernel
theorem dX10_layLiars_62 : decode cX10_layLiars 62 = .ok (.invokestatic 424, 3) := by decide +kernel
set_option maxRecDepth 100000 in
theorem wm_X10_424 : Cond.methodLink RX10 424 yX10_bitsOf ∈ gw := gm (List.mem_of_getElem? (i := 1723) (by decide +kernel)) rfl
set_option maxRecDepth 100000 in
theorem mi_X10_bitsOf : MI yX10_bitsOf cX10_bitsOf 3 (some .int) 1 := ⟨gm (List.mem_of_getElem? (i := 1725) rfl) rfl, gm (List.mem_of_getElem? (i := 124) (by decide +kernel)) rfl, by decide, by decide, by decide +kernel⟩
set_option maxRecDepth 100000 in
theorem st_X10_bitsOf : Cond.static yX10_bitsOf ∈ gw := gm (List.mem_of_getElem? (i := 1724) (by decide +kernel)) rfl
theorem dX10_layLiars_65 : decode cX10_layLiars 65 = .ok (.goto 14, 3) := by decide +kernel
theorem dX10_layLiars_79 : decode cX10_layLiars 79 = .ok (.putfield 421, 3) := by decide +kernel
theorem dX10_layLiars_82 : decode cX10_layLiars 82 = .ok (.iinc 1 1, 3) := by decide +kernel
theorem dX10_layLiars_85 : decode cX10_layLiars 85 = .ok (.goto (-57), 3) := by decide +kernel
theorem dX10_layLiars_88 : decode cX10_layLiars 88 = .ok (.iconst 0, 1) := by decide +kernel
theorem dX10_layLiars_89 : decode cX10_layLiars 89 = .ok (.istore_n 1, 1) := by decide +kernel
theorem dX10_layLiars_90 : decode cX10_layLiars 90 = .ok (.iload_n 1, 1) := by decide +kernel
theorem dX10_layLiars_91 : decode cX10_layLiars 91 = .ok (.bipush 64, 2) := by decide +kernel
theorem dX10_layLiars_93 : decode cX10_layLiars 93 = .ok (.if_icmp .ge 40, 3) := by decide +kernel
theorem dX10_layLiars_96 : decode cX10_layLiars 96 = .ok (.aload_n 0, 1) := by decide +kernel
theorem dX10_layLiars_97 : decode cX10_layLiars 97 = .ok (.getfield 218, 3) := by decide +kernel
theorem dX10_layLiars_100 : decode cX10_layLiars 100 = .ok (.iload_n 1, 1) := by decide +kernel
theorem dX10_layLiars_101 : decode cX10_layLiars 101 = .ok (.aload_n 0, 1) := by decide +kernel
theorem dX10_layLiars_102 : decode cX10_layLiars 102 = .ok (.getfield 218, 3) := by decide +kernel
theorem dX10_layLiars_105 : decode cX10_layLiars 105 = .ok (.iload_n 1, 1) := by decide +kernel
theorem dX10_layLiars_106 : decode cX10_layLiars 106 = .ok (.baload, 1) := by decide +kernel
theorem dX10_layLiars_107 : decode cX10_layLiars 107 = .ok (.ifCond .eq 18, 3) := by decide +kernel
theorem dX10_layLiars_110 : decode cX10_layLiars 110 = .ok (.iload_n 1, 1) := by decide +kernel
theorem dX10_layLiars_111 : decode cX10_layLiars 111 = .ok (.invokestatic 424, 3) := by decide +kernel
theorem dX10_layLiars_114 : decode cX10_layLiars 114 = .ok (.aload_n 0, 1) := by decide +kernel
theorem dX10_layLiars_115 : decode cX10_layLiars 115 = .ok (.getfield 421, 3) := by decide +kernel
theorem dX10_layLiars_118 : decode cX10_layLiars 118 = .ok (.if_icmp .ne 7, 3) := by decide +kernel
theorem dX10_layLiars_121 : decode cX10_layLiars 121 = .ok (.iconst 1, 1) := by decide +kernel
theorem dX10_layLiars_122 : decode cX10_layLiars 122 = .ok (.goto 4, 3) := by decide +kernel
theorem dX10_layLiars_126 : decode cX10_layLiars 126 = .ok (.bastore, 1) := by decide +kernel
theorem dX10_layLiars_127 : decode cX10_layLiars 127 = .ok (.iinc 1 1, 3) := by decide +kernel
theorem dX10_layLiars_130 : decode cX10_layLiars 130 = .ok (.goto (-40), 3) := by decide +kernel
theorem dX10_layLiars_125 : decode cX10_layLiars 125 = .ok (.iconst 0, 1) := by decide +kernel
theorem dX10_layLiars_133 : decode cX10_layLiars 133 = .ok (.return_, 1) := by decide +kernel
set_option maxHeartbeats 4000000 in
set_option maxRecDepth 100000 in
theorem c187_X10_layLiars (l : Launch) (G : va_G) (cI cJ cB cZ : ClassId) (a0 a1 a2 a3 a4 a5 a6 a7 a8 a9 a10 a11 a12 a13 a14 a15 a16 a17 a18 a19 a20 a21 a22 a23 a24 a25 a26 a27 a28 a29 a30 a31 a32 a33 a34 a35 a36 a37 a38 a39 a40 a41 a42 : Nat) (x0 : Int32) : Con l G (TY cI cJ cB cZ) yX10_layLiars cX10_layLiars 3 none ({ frames := 3, cells := 0, slots := 0, locals := 67 } : Room) [.ref a0] [(a0, .inr (10, [.ref a1, .ref a2, .int 0, .int 0, .int 0, .int (-1), .int 0, .int 0, .int 0, .int 0, .long 0, .ref a3, .ref a4, .ref a5, .ref a6, .ref a7, .ref a8, .ref a9, .ref a10, .ref a11, .ref a12, .ref a13, .ref a14, .ref a15, .ref a16, .ref a17, .ref a18, .ref a19, .ref a20, .ref a21, .ref a22, .ref a23, .ref a24, .ref a25, .ref a26, .ref a27, .ref a28, .ref a29, .ref a30, .ref a31, .int 0, .int 0, .ref a32, .ref a33, .int 0, .int 0, .int 0, .int 1, .ref a34, .int 0, .ref a35, .ref a36, .ref a37, .int 1, .int x0, .int 100, .int 1, .int 0, .int 0, .int 0, .int 0, .ref a38, .int 0, .ref a39, .ref a40, .ref a41, .ref a42, .int 0, .int 0])), (a38, .inl (cZ, 64, .inl (fun _ => 0))), (a35, .inl (cI, 300000, .inl (fun _ => 0))), (a12, .inl (cI, 2, .inl (fun _ => 0))), (a10, .inl (cI, 4, .inl (upd (upd (fun _ => 0) 0 16) 1 16))), (a11, .inl (cI, 4, .inl (upd (upd (fun _ => 0) 0 16) 1 16))), (a37, .inl (cI, 2, .inl (upd (upd (fun _ => 0) 1 16) 0 16))), (a7, .inl (cI, 2, .inl (upd (fun _ => 0) 0 100)))] (QV G (TY cI cJ cB cZ) (fun u : Unit => True) (fun u : Unit => [(a0, .inr (10, [.ref a1, .ref a2, .int 0, .int 0, .int 0, .int (-1), .int 0, .int 0, .int 0, .int 0, .long 0, .ref a3, .ref a4, .ref a5, .ref a6, .ref a7, .ref a8, .ref a9, .ref a10, .ref a11, .ref a12, .ref a13, .ref a14, .ref a15, .ref a16, .ref a17, .ref a18, .ref a19, .ref a20, .ref a21, .ref a22, .ref a23, .ref a24, .ref a25, .ref a26, .ref a27, .ref a28, .ref a29, .ref a30, .ref a31, .int 0, .int 0, .ref a32, .ref a33, .int 0, .int 0, .int 0, .int 1, .ref a34, .int 0, .ref a35, .ref a36, .ref a37, .int 1, .int x0, .int 100, .int 1, .int 0, .int 0, .int 0, .int 0, .ref a38, .int 0, .ref a39, .ref a40, .ref a41, .ref a42, .int 0, .int 0])), (a38, .inl (cZ, 64, .inl (upd (fun _ => 0) 0 1))), (a35, .inl (cI, 300000, .inl (fun _ => 0))), (a12, .inl (cI, 2, .inl (fun _ => 0))), (a10, .inl (cI, 4, .inl (upd (upd (fun _ => 0) 0 16) 1 16))), (a11, .inl (cI, 4, .inl (upd (upd (fun _ => 0) 0 16) 1 16))), (a37, .inl (cI, 2, .inl (upd (upd (fun _ => 0) 1 16) 0 16))), (a7, .inl (cI, 2, .inl (upd (fun _ => 0) 0 100)))])) := by
  refine k_met (by decide) (Nat.le_of_ble_eq_true rfl) ?_
  intro p e s m below meth c A ls hC hr hlk hnm hN hK hA hP hD hS hl
  have hl : lv_has ls 3 [(0, .ref a0)] := hl
  obtain ⟨hx, hb, hml, hown, hts⟩ := id hC
  refine lv_aload_n hx hb dX10_layLiars_0 rfl (lv_at hl 0 rfl) ?_
  refine lv_iconst (v := (-1)) hx hb dX10_layLiars_1 (by decide) ?_
  refine k_put hC hK hP hD hS iX10 tyX10_ok nmX10 0 62 wf_X10_421 rfl (by decide) rfl rfl rfl rfl (Nat.le_of_ble_eq_true rfl) dX10_layLiars_2 (fun H locs hP hD hS => ?_)
  have hP : va_P G cl [(a0, .inr (10, [.ref a1, .ref a2, .int 0, .int 0, .int 0, .int (-1), .int 0, .int 0, .int 0, .int 0, .long 0, .ref a3, .ref a4, .ref a5, .ref a6, .ref a7, .ref a8, .ref a9, .ref a10, .ref a11, .ref a12, .ref a13, .ref a14, .ref a15, .ref a16, .ref a17, .ref a18, .ref a19, .ref a20, .ref a21, .ref a22, .ref a23, .ref a24, .ref a25, .ref a26, .ref a27, .ref a28, .ref a29, .ref a30, .ref a31, .int 0, .int 0, .ref a32, .ref a33, .int 0, .int 0, .int 0, .int 1, .ref a34, .int 0, .ref a35, .ref a36, .ref a37, .int 1, .int x0, .int 100, .int 1, .int 0, .int 0, .int 0, .int 0, .ref a38, .int (-1), .ref a39, .ref a40, .ref a41, .ref a42, .int 0, .int 0])), (a38, .inl (cZ, 64, .inl (fun _ => 0))), (a35, .inl (cI, 300000, .inl (fun _ => 0))), (a12, .inl (cI, 2, .inl (fun _ => 0))), (a10, .inl (cI, 4, .inl (upd (upd (fun _ => 0) 0 16) 1 16))), (a11, .inl (cI, 4, .inl (upd (upd (fun _ => 0) 0 16) 1 16))), (a37, .inl (cI, 2, .inl (upd (upd (fun _ => 0) 1 16) 0 16))), (a7, .inl (cI, 2, .inl (upd (fun _ => 0) 0 100)))] H := hP
  have hD : va_D A [(a0, .inr (10, [.ref a1, .ref a2, .int 0, .int 0, .int 0, .int (-1), .int 0, .int 0, .int 0, .int 0, .long 0, .ref a3, .ref a4, .ref a5, .ref a6, .ref a7, .ref a8, .ref a9, .ref a10, .ref a11, .ref a12, .ref a13, .ref a14, .ref a15, .ref a16, .ref a17, .ref a18, .ref a19, .ref a20, .ref a21, .ref a22, .ref a23, .ref a24, .ref a25, .ref a26, .ref a27, .ref a28, .ref a29, .ref a30, .ref a31, .int 0, .int 0, .ref a32, .ref a33, .int 0, .int 0, .int 0, .int 1, .ref a34, .int 0, .ref a35, .ref a36, .ref a37, .int 1, .int x0, .int 100, .int 1, .int 0, .int 0, .int 0, .int 0, .ref a38, .int (-1), .ref a39, .ref a40, .ref a41, .ref a42, .int 0, .int 0])), (a38, .inl (cZ, 64, .inl (fun _ => 0))), (a35, .inl (cI, 300000, .inl (fun _ => 0))), (a12, .inl (cI, 2, .inl (fun _ => 0))), (a10, .inl (cI, 4, .inl (upd (upd (fun _ => 0) 0 16) 1 16))), (a11, .inl (cI, 4, .inl (upd (upd (fun _ => 0) 0 16) 1 16))), (a37, .inl (cI, 2, .inl (upd (upd (fun _ => 0) 1 16) 0 16))), (a7, .inl (cI, 2, .inl (upd (fun _ => 0) 0 100)))] := hD
  refine lv_iconst (v := 0) hx hb dX10_layLiars_5 (by decide) ?_
  refine lv_istore_n (lv' := [(1, .int 0), (0, .ref a0)]) hx hb dX10_layLiars_6 rfl hl (by decide) rfl (fun ls hl => ?_)
  refine lv_iload_n hx hb dX10_layLiars_7 rfl (lv_at hl 0 rfl) ?_
  refine lv_bipush (v := 64) hx hb dX10_layLiars_8 (by decide) ?_
  refine lv_icmp_ge (tgt := 26) hx hb dX10_layLiars_10 (by decide) (fun c_ => absurd c_ (by decide +kernel)) (fun _ => ?_)
  refine lv_aload_n hx hb dX10_layLiars_13 rfl (lv_at hl 1 rfl) ?_
  refine k_get hC hK hP iX10 0 61 wf_X10_218 rfl (by decide) rfl rfl dX10_layLiars_14 ?_
  refine lv_iload_n hx hb dX10_layLiars_17 rfl (lv_at hl 0 rfl) ?_
  refine lv_iconst (v := 0) hx hb dX10_layLiars_18 (by decide) ?_
  refine k_zastS hC hK hP hD hS 1 0 rfl (by decide +kernel) (by decide) (by decide +kernel) dX10_layLiars_19 (fun H locs hP hD hS => ?_)
  refine lv_iinc (v := 1) (lv' := [(1, .int 1), (0, .ref a0)]) hx hb dX10_layLiars_20 hl (k := 0) rfl (by decide +kernel) (by decide) rfl (fun ls hl => ?_)
  refine lv_goto (tgt := 7) hx hb dX10_layLiars_23 (by decide) ?_
  refine lv_iload_n hx hb dX10_layLiars_7 rfl (lv_at hl 0 rfl) ?_
  refine lv_bipush (v := 64) hx hb dX10_layLiars_8 (by decide) ?_
  refine lv_icmp_ge (tgt := 26) hx hb dX10_layLiars_10 (by decide) (fun c_ => absurd c_ (by decide +kernel)) (fun _ => ?_)
  refine lv_aload_n hx hb dX10_layLiars_13 rfl (lv_at hl 1 rfl) ?_
  refine k_get hC hK hP iX10 0 61 wf_X10_218 rfl (by decide) rfl rfl dX10_layLiars_14 ?_
  refine lv_iload_n hx hb dX10_layLiars_17 rfl (lv_at hl 0 rfl) ?_
  refine lv_iconst (v := 0) hx hb dX10_layLiars_18 (by decide) ?_
  refine k_zastS hC hK hP hD hS 1 1 rfl (by decide +kernel) (by decide) (by decide +kernel) dX10_layLiars_19 (fun H locs hP hD hS => ?_)
  refine lv_iinc (v := 2) (lv' := [(1, .int 2), (0, .ref a0)]) hx hb dX10_layLiars_20 hl (k := 0) rfl (by decide +kernel) (by decide) rfl (fun ls hl => ?_)
  refine lv_goto (tgt := 7) hx hb dX10_layLiars_23 (by decide) ?_
  refine lv_iload_n hx hb dX10_layLiars_7 rfl (lv_at hl 0 rfl) ?_
  refine lv_bipush (v := 64) hx hb dX10_layLiars_8 (by decide) ?_
  refine lv_icmp_ge (tgt := 26) hx hb dX10_layLiars_10 (by decide) (fun c_ => absurd c_ (by decide +kernel)) (fun _ => ?_)
  refine lv_aload_n hx hb dX10_layLiars_13 rfl (lv_at hl 1 rfl) ?_
  refine k_get hC hK hP iX10 0 61 wf_X10_218 rfl (by decide) rfl rfl dX10_layLiars_14 ?_
  refine lv_iload_n hx hb dX10_layLiars_17 rfl (lv_at hl 0 rfl) ?_
  refine lv_iconst (v := 0) hx hb dX10_layLiars_18 (by decide) ?_
  refine k_zastS hC hK hP hD hS 1 2 rfl (by decide +kernel) (by decide) (by decide +kernel) dX10_layLiars_19 (fun H locs hP hD hS => ?_)
  refine lv_iinc (v := 3) (lv' := [(1, .int 3), (0, .ref a0)]) hx hb dX10_layLiars_20 hl (k := 0) rfl (by decide +kernel) (by decide) rfl (fun ls hl => ?_)
  refine lv_goto (tgt := 7) hx hb dX10_layLiars_23 (by decide) ?_
  refine lv_iload_n hx hb dX10_layLiars_7 rfl (lv_at hl 0 rfl) ?_
  refine lv_bipush (v := 64) hx hb dX10_layLiars_8 (by decide) ?_
  refine lv_icmp_ge (tgt := 26) hx hb dX10_layLiars_10 (by decide) (fun c_ => absurd c_ (by decide +kernel)) (fun _ => ?_)
  refine lv_aload_n hx hb dX10_layLiars_13 rfl (lv_at hl 1 rfl) ?_
  refine k_get hC hK hP iX10 0 61 wf_X10_218 rfl (by decide) rfl rfl dX10_layLiars_14 ?_
  refine lv_iload_n hx hb dX10_layLiars_17 rfl (lv_at hl 0 rfl) ?_
  refine lv_iconst (v := 0) hx hb dX10_layLiars_18 (by decide) ?_
  refine k_zastS hC hK hP hD hS 1 3 rfl (by decide +kernel) (by decide) (by decide +kernel) dX10_layLiars_19 (fun H locs hP hD hS => ?_)
  refine lv_iinc (v := 4) (lv' := [(1, .int 4), (0, .ref a0)]) hx hb dX10_layLiars_20 hl (k := 0) rfl (by decide +kernel) (by decide) rfl (fun ls hl => ?_)
  refine lv_goto (tgt := 7) hx hb dX10_layLiars_23 (by decide) ?_
  refine lv_iload_n hx hb dX10_layLiars_7 rfl (lv_at hl 0 rfl) ?_
  refine lv_bipush (v := 64) hx hb dX10_layLiars_8 (by decide) ?_
  refine lv_icmp_ge (tgt := 26) hx hb dX10_layLiars_10 (by decide) (fun c_ => absurd c_ (by decide +kernel)) (fun _ => ?_)
  refine lv_aload_n hx hb dX10_layLiars_13 rfl (lv_at hl 1 rfl) ?_
  refine k_get hC hK hP iX10 0 61 wf_X10_218 rfl (by decide) rfl rfl dX10_layLiars_14 ?_
  refine lv_iload_n hx hb dX10_layLiars_17 rfl (lv_at hl 0 rfl) ?_
  refine lv_iconst (v := 0) hx hb dX10_layLiars_18 (by decide) ?_
  refine k_zastS hC hK hP hD hS 1 4 rfl (by decide +kernel) (by decide) (by decide +kernel) dX10_layLiars_19 (fun H locs hP hD hS => ?_)
  refine lv_iinc (v := 5) (lv' := [(1, .int 5), (0, .ref a0)]) hx hb dX10_layLiars_20 hl (k := 0) rfl (by decide +kernel) (by decide) rfl (fun ls hl => ?_)
  refine lv_goto (tgt := 7) hx hb dX10_layLiars_23 (by decide) ?_
  refine lv_iload_n hx hb dX10_layLiars_7 rfl (lv_at hl 0 rfl) ?_
  refine lv_bipush (v := 64) hx hb dX10_layLiars_8 (by decide) ?_
  refine lv_icmp_ge (tgt := 26) hx hb dX10_layLiars_10 (by decide) (fun c_ => absurd c_ (by decide +kernel)) (fun _ => ?_)
  refine lv_aload_n hx hb dX10_layLiars_13 rfl (lv_at hl 1 rfl) ?_
  refine k_get hC hK hP iX10 0 61 wf_X10_218 rfl (by decide) rfl rfl dX10_layLiars_14 ?_
  refine lv_iload_n hx hb dX10_layLiars_17 rfl (lv_at hl 0 rfl) ?_
  refine lv_iconst (v := 0) hx hb dX10_layLiars_18 (by decide) ?_
  refine k_zastS hC hK hP hD hS 1 5 rfl (by decide +kernel) (by decide) (by decide +kernel) dX10_layLiars_19 (fun H locs hP hD hS => ?_)
  refine lv_iinc (v := 6) (lv' := [(1, .int 6), (0, .ref a0)]) hx hb dX10_layLiars_20 hl (k := 0) rfl (by decide +kernel) (by decide) rfl (fun ls hl => ?_)
  refine lv_goto (tgt := 7) hx hb dX10_layLiars_23 (by decide) ?_
  refine lv_iload_n hx hb dX10_layLiars_7 rfl (lv_at hl 0 rfl) ?_
  refine lv_bipush (v := 64) hx hb dX10_layLiars_8 (by decide) ?_
  refine lv_icmp_ge (tgt := 26) hx hb dX10_layLiars_10 (by decide) (fun c_ => absurd c_ (by decide +kernel)) (fun _ => ?_)
  refine lv_aload_n hx hb dX10_layLiars_13 rfl (lv_at hl 1 rfl) ?_
  refine k_get hC hK hP iX10 0 61 wf_X10_218 rfl (by decide) rfl rfl dX10_layLiars_14 ?_
  refine lv_iload_n hx hb dX10_layLiars_17 rfl (lv_at hl 0 rfl) ?_
  refine lv_iconst (v := 0) hx hb dX10_layLiars_18 (by decide) ?_
  refine k_zastS hC hK hP hD hS 1 6 rfl (by decide +kernel) (by decide) (by decide +kernel) dX10_layLiars_19 (fun H locs hP hD hS => ?_)
  refine lv_iinc (v := 7) (lv' := [(1, .int 7), (0, .ref a0)]) hx hb dX10_layLiars_20 hl (k := 0) rfl (by decide +kernel) (by decide) rfl (fun ls hl => ?_)
  refine lv_goto (tgt := 7) hx hb dX10_layLiars_23 (by decide) ?_
  refine lv_iload_n hx hb dX10_layLiars_7 rfl (lv_at hl 0 rfl) ?_
  refine lv_bipush (v := 64) hx hb dX10_layLiars_8 (by decide) ?_
  refine lv_icmp_ge (tgt := 26) hx hb dX10_layLiars_10 (by decide) (fun c_ => absurd c_ (by decide +kernel)) (fun _ => ?_)
  refine lv_aload_n hx hb dX10_layLiars_13 rfl (lv_at hl 1 rfl) ?_
  refine k_get hC hK hP iX10 0 61 wf_X10_218 rfl (by decide) rfl rfl dX10_layLiars_14 ?_
  refine lv_iload_n hx hb dX10_layLiars_17 rfl (lv_at hl 0 rfl) ?_
  refine lv_iconst (v := 0) hx hb dX10_layLiars_18 (by decide) ?_
  refine k_zastS hC hK hP hD hS 1 7 rfl (by decide +kernel) (by decide) (by decide +kernel) dX10_layLiars_19 (fun H locs hP hD hS => ?_)
  refine lv_iinc (v := 8) (lv' := [(1, .int 8), (0, .ref a0)]) hx hb dX10_layLiars_20 hl (k := 0) rfl (by decide +kernel) (by decide) rfl (fun ls hl => ?_)
  refine lv_goto (tgt := 7) hx hb dX10_layLiars_23 (by decide) ?_
  refine lv_iload_n hx hb dX10_layLiars_7 rfl (lv_at hl 0 rfl) ?_
  refine lv_bipush (v := 64) hx hb dX10_layLiars_8 (by decide) ?_
  refine lv_icmp_ge (tgt := 26) hx hb dX10_layLiars_10 (by decide) (fun c_ => absurd c_ (by decide +kernel)) (fun _ => ?_)
  refine lv_aload_n hx hb dX10_layLiars_13 rfl (lv_at hl 1 rfl) ?_
  refine k_get hC hK hP iX10 0 61 wf_X10_218 rfl (by decide) rfl rfl dX10_layLiars_14 ?_
  refine lv_iload_n hx hb dX10_layLiars_17 rfl (lv_at hl 0 rfl) ?_
  refine lv_iconst (v := 0) hx hb dX10_layLiars_18 (by decide) ?_
  refine k_zastS hC hK hP hD hS 1 8 rfl (by decide +kernel) (by decide) (by decide +kernel) dX10_layLiars_19 (fun H locs hP hD hS => ?_)
  refine lv_iinc (v := 9) (lv' := [(1, .int 9), (0, .ref a0)]) hx hb dX10_layLiars_20 hl (k := 0) rfl (by decide +kernel) (by decide) rfl (fun ls hl => ?_)
  refine lv_goto (tgt := 7) hx hb dX10_layLiars_23 (by decide) ?_
  refine lv_iload_n hx hb dX10_layLiars_7 rfl (lv_at hl 0 rfl) ?_
  refine lv_bipush (v := 64) hx hb dX10_layLiars_8 (by decide) ?_
  refine lv_icmp_ge (tgt := 26) hx hb dX10_layLiars_10 (by decide) (fun c_ => absurd c_ (by decide +kernel)) (fun _ => ?_)
  refine lv_aload_n hx hb dX10_layLiars_13 rfl (lv_at hl 1 rfl) ?_
  refine k_get hC hK hP iX10 0 61 wf_X10_218 rfl (by decide) rfl rfl dX10_layLiars_14 ?_
  refine lv_iload_n hx hb dX10_layLiars_17 rfl (lv_at hl 0 rfl) ?_
  refine lv_iconst (v := 0) hx hb dX10_layLiars_18 (by decide) ?_
  refine k_zastS hC hK hP hD hS 1 9 rfl (by decide +kernel) (by decide) (by decide +kernel) dX10_layLiars_19 (fun H locs hP hD hS => ?_)
  refine lv_iinc (v := 10) (lv' := [(1, .int 10), (0, .ref a0)]) hx hb dX10_layLiars_20 hl (k := 0) rfl (by decide +kernel) (by decide) rfl (fun ls hl => ?_)
  refine lv_goto (tgt := 7) hx hb dX10_layLiars_23 (by decide) ?_
  refine lv_iload_n hx hb dX10_layLiars_7 rfl (lv_at hl 0 rfl) ?_
  refine lv_bipush (v := 64) hx hb dX10_layLiars_8 (by decide) ?_
  refine lv_icmp_ge (tgt := 26) hx hb dX10_layLiars_10 (by decide) (fun c_ => absurd c_ (by decide +kernel)) (fun _ => ?_)
  refine lv_aload_n hx hb dX10_layLiars_13 rfl (lv_at hl 1 rfl) ?_
  refine k_get hC hK hP iX10 0 61 wf_X10_218 rfl (by decide) rfl rfl dX10_layLiars_14 ?_
  refine lv_iload_n hx hb dX10_layLiars_17 rfl (lv_at hl 0 rfl) ?_
  refine lv_iconst (v := 0) hx hb dX10_layLiars_18 (by decide) ?_
  refine k_zastS hC hK hP hD hS 1 10 rfl (by decide +kernel) (by decide) (by decide +kernel) dX10_layLiars_19 (fun H locs hP hD hS => ?_)
  refine lv_iinc (v := 11) (lv' := [(1, .int 11), (0, .ref a0)]) hx hb dX10_layLiars_20 hl (k := 0) rfl (by decide +kernel) (by decide) rfl (fun ls hl => ?_)
  refine lv_goto (tgt := 7) hx hb dX10_layLiars_23 (by decide) ?_
  refine lv_iload_n hx hb dX10_layLiars_7 rfl (lv_at hl 0 rfl) ?_
  refine lv_bipush (v := 64) hx hb dX10_layLiars_8 (by decide) ?_
  refine lv_icmp_ge (tgt := 26) hx hb dX10_layLiars_10 (by decide) (fun c_ => absurd c_ (by decide +kernel)) (fun _ => ?_)
  refine lv_aload_n hx hb dX10_layLiars_13 rfl (lv_at hl 1 rfl) ?_
  refine k_get hC hK hP iX10 0 61 wf_X10_218 rfl (by decide) rfl rfl dX10_layLiars_14 ?_
  refine lv_iload_n hx hb dX10_layLiars_17 rfl (lv_at hl 0 rfl) ?_
  refine lv_iconst (v := 0) hx hb dX10_layLiars_18 (by decide) ?_
  refine k_zastS hC hK hP hD hS 1 11 rfl (by decide +kernel) (by decide) (by decide +kernel) dX10_layLiars_19 (fun H locs hP hD hS => ?_)
  refine lv_iinc (v := 12) (lv' := [(1, .int 12), (0, .ref a0)]) hx hb dX10_layLiars_20 hl (k := 0) rfl (by decide +kernel) (by decide) rfl (fun ls hl => ?_)
  refine lv_goto (tgt := 7) hx hb dX10_layLiars_23 (by decide) ?_
  refine lv_iload_n hx hb dX10_layLiars_7 rfl (lv_at hl 0 rfl) ?_
  refine lv_bipush (v := 64) hx hb dX10_layLiars_8 (by decide) ?_
  refine lv_icmp_ge (tgt := 26) hx hb dX10_layLiars_10 (by decide) (fun c_ => absurd c_ (by decide +kernel)) (fun _ => ?_)
  refine lv_aload_n hx hb dX10_layLiars_13 rfl (lv_at hl 1 rfl) ?_
  refine k_get hC hK hP iX10 0 61 wf_X10_218 rfl (by decide) rfl rfl dX10_layLiars_14 ?_
  refine lv_iload_n hx hb dX10_layLiars_17 rfl (lv_at hl 0 rfl) ?_
  refine lv_iconst (v := 0) hx hb dX10_layLiars_18 (by decide) ?_
  refine k_zastS hC hK hP hD hS 1 12 rfl (by decide +kernel) (by decide) (by decide +kernel) dX10_layLiars_19 (fun H locs hP hD hS => ?_)
  refine lv_iinc (v := 13) (lv' := [(1, .int 13), (0, .ref a0)]) hx hb dX10_layLiars_20 hl (k := 0) rfl (by decide +kernel) (by decide) rfl (fun ls hl => ?_)
  refine lv_goto (tgt := 7) hx hb dX10_layLiars_23 (by decide) ?_
  refine lv_iload_n hx hb dX10_layLiars_7 rfl (lv_at hl 0 rfl) ?_
  refine lv_bipush (v := 64) hx hb dX10_layLiars_8 (by decide) ?_
  refine lv_icmp_ge (tgt := 26) hx hb dX10_layLiars_10 (by decide) (fun c_ => absurd c_ (by decide +kernel)) (fun _ => ?_)
  refine lv_aload_n hx hb dX10_layLiars_13 rfl (lv_at hl 1 rfl) ?_
  refine k_get hC hK hP iX10 0 61 wf_X10_218 rfl (by decide) rfl rfl dX10_layLiars_14 ?_
  refine lv_iload_n hx hb dX10_layLiars_17 rfl (lv_at hl 0 rfl) ?_
  refine lv_iconst (v := 0) hx hb dX10_layLiars_18 (by decide) ?_
  refine k_zastS hC hK hP hD hS 1 13 rfl (by decide +kernel) (by decide) (by decide +kernel) dX10_layLiars_19 (fun H locs hP hD hS => ?_)
  refine lv_iinc (v := 14) (lv' := [(1, .int 14), (0, .ref a0)]) hx hb dX10_layLiars_20 hl (k := 0) rfl (by decide +kernel) (by decide) rfl (fun ls hl => ?_)
  refine lv_goto (tgt := 7) hx hb dX10_layLiars_23 (by decide) ?_
  refine lv_iload_n hx hb dX10_layLiars_7 rfl (lv_at hl 0 rfl) ?_
  refine lv_bipush (v := 64) hx hb dX10_layLiars_8 (by decide) ?_
  refine lv_icmp_ge (tgt := 26) hx hb dX10_layLiars_10 (by decide) (fun c_ => absurd c_ (by decide +kernel)) (fun _ => ?_)
  refine lv_aload_n hx hb dX10_layLiars_13 rfl (lv_at hl 1 rfl) ?_
  refine k_get hC hK hP iX10 0 61 wf_X10_218 rfl (by decide) rfl rfl dX10_layLiars_14 ?_
  refine lv_iload_n hx hb dX10_layLiars_17 rfl (lv_at hl 0 rfl) ?_
  refine lv_iconst (v := 0) hx hb dX10_layLiars_18 (by decide) ?_
  refine k_zastS hC hK hP hD hS 1 14 rfl (by decide +kernel) (by decide) (by decide +kernel) dX10_layLiars_19 (fun H locs hP hD hS => ?_)
  refine lv_iinc (v := 15) (lv' := [(1, .int 15), (0, .ref a0)]) hx hb dX10_layLiars_20 hl (k := 0) rfl (by decide +kernel) (by decide) rfl (fun ls hl => ?_)
  refine lv_goto (tgt := 7) hx hb dX10_layLiars_23 (by decide) ?_
  refine lv_iload_n hx hb dX10_layLiars_7 rfl (lv_at hl 0 rfl) ?_
  refine lv_bipush (v := 64) hx hb dX10_layLiars_8 (by decide) ?_
  refine lv_icmp_ge (tgt := 26) hx hb dX10_layLiars_10 (by decide) (fun c_ => absurd c_ (by decide +kernel)) (fun _ => ?_)
  refine lv_aload_n hx hb dX10_layLiars_13 rfl (lv_at hl 1 rfl) ?_
  refine k_get hC hK hP iX10 0 61 wf_X10_218 rfl (by decide) rfl rfl dX10_layLiars_14 ?_
  refine lv_iload_n hx hb dX10_layLiars_17 rfl (lv_at hl 0 rfl) ?_
  refine lv_iconst (v := 0) hx hb dX10_layLiars_18 (by decide) ?_
  refine k_zastS hC hK hP hD hS 1 15 rfl (by decide +kernel) (by decide) (by decide +kernel) dX10_layLiars_19 (fun H locs hP hD hS => ?_)
  refine lv_iinc (v := 16) (lv' := [(1, .int 16), (0, .ref a0)]) hx hb dX10_layLiars_20 hl (k := 0) rfl (by decide +kernel) (by decide) rfl (fun ls hl => ?_)
  refine lv_goto (tgt := 7) hx hb dX10_layLiars_23 (by decide) ?_
  refine lv_iload_n hx hb dX10_layLiars_7 rfl (lv_at hl 0 rfl) ?_
  refine lv_bipush (v := 64) hx hb dX10_layLiars_8 (by decide) ?_
  refine lv_icmp_ge (tgt := 26) hx hb dX10_layLiars_10 (by decide) (fun c_ => absurd c_ (by decide +kernel)) (fun _ => ?_)
  refine lv_aload_n hx hb dX10_layLiars_13 rfl (lv_at hl 1 rfl) ?_
  refine k_get hC hK hP iX10 0 61 wf_X10_218 rfl (by decide) rfl rfl dX10_layLiars_14 ?_
  refine lv_iload_n hx hb dX10_layLiars_17 rfl (lv_at hl 0 rfl) ?_
  refine lv_iconst (v := 0) hx hb dX10_layLiars_18 (by decide) ?_
  refine k_zastS hC hK hP hD hS 1 16 rfl (by decide +kernel) (by decide) (by decide +kernel) dX10_layLiars_19 (fun H locs hP hD hS => ?_)
  refine lv_iinc (v := 17) (lv' := [(1, .int 17), (0, .ref a0)]) hx hb dX10_layLiars_20 hl (k := 0) rfl (by decide +kernel) (by decide) rfl (fun ls hl => ?_)
  refine lv_goto (tgt := 7) hx hb dX10_layLiars_23 (by decide) ?_
  refine lv_iload_n hx hb dX10_layLiars_7 rfl (lv_at hl 0 rfl) ?_
  refine lv_bipush (v := 64) hx hb dX10_layLiars_8 (by decide) ?_
  refine lv_icmp_ge (tgt := 26) hx hb dX10_layLiars_10 (by decide) (fun c_ => absurd c_ (by decide +kernel)) (fun _ => ?_)
  refine lv_aload_n hx hb dX10_layLiars_13 rfl (lv_at hl 1 rfl) ?_
  refine k_get hC hK hP iX10 0 61 wf_X10_218 rfl (by decide) rfl rfl dX10_layLiars_14 ?_
  refine lv_iload_n hx hb dX10_layLiars_17 rfl (lv_at hl 0 rfl) ?_
  refine lv_iconst (v := 0) hx hb dX10_layLiars_18 (by decide) ?_
  refine k_zastS hC hK hP hD hS 1 17 rfl (by decide +kernel) (by decide) (by decide +kernel) dX10_layLiars_19 (fun H locs hP hD hS => ?_)
  refine lv_iinc (v := 18) (lv' := [(1, .int 18), (0, .ref a0)]) hx hb dX10_layLiars_20 hl (k := 0) rfl (by decide +kernel) (by decide) rfl (fun ls hl => ?_)
  refine lv_goto (tgt := 7) hx hb dX10_layLiars_23 (by decide) ?_
  refine lv_iload_n hx hb dX10_layLiars_7 rfl (lv_at hl 0 rfl) ?_
  refine lv_bipush (v := 64) hx hb dX10_layLiars_8 (by decide) ?_
  refine lv_icmp_ge (tgt := 26) hx hb dX10_layLiars_10 (by decide) (fun c_ => absurd c_ (by decide +kernel)) (fun _ => ?_)
  refine lv_aload_n hx hb dX10_layLiars_13 rfl (lv_at hl 1 rfl) ?_
  refine k_get hC hK hP iX10 0 61 wf_X10_218 rfl (by decide) rfl rfl dX10_layLiars_14 ?_
  refine lv_iload_n hx hb dX10_layLiars_17 rfl (lv_at hl 0 rfl) ?_
  refine lv_iconst (v := 0) hx hb dX10_layLiars_18 (by decide) ?_
  refine k_zastS hC hK hP hD hS 1 18 rfl (by decide +kernel) (by decide) (by decide +kernel) dX10_layLiars_19 (fun H locs hP hD hS => ?_)
  refine lv_iinc (v := 19) (lv' := [(1, .int 19), (0, .ref a0)]) hx hb dX10_layLiars_20 hl (k := 0) rfl (by decide +kernel) (by decide) rfl (fun ls hl => ?_)
  refine lv_goto (tgt := 7) hx hb dX10_layLiars_23 (by decide) ?_
  refine lv_iload_n hx hb dX10_layLiars_7 rfl (lv_at hl 0 rfl) ?_
  refine lv_bipush (v := 64) hx hb dX10_layLiars_8 (by decide) ?_
  refine lv_icmp_ge (tgt := 26) hx hb dX10_layLiars_10 (by decide) (fun c_ => absurd c_ (by decide +kernel)) (fun _ => ?_)
  refine lv_aload_n hx hb dX10_layLiars_13 rfl (lv_at hl 1 rfl) ?_
  refine k_get hC hK hP iX10 0 61 wf_X10_218 rfl (by decide) rfl rfl dX10_layLiars_14 ?_
  refine lv_iload_n hx hb dX10_layLiars_17 rfl (lv_at hl 0 rfl) ?_
  refine lv_iconst (v := 0) hx hb dX10_layLiars_18 (by decide) ?_
  refine k_zastS hC hK hP hD hS 1 19 rfl (by decide +kernel) (by decide) (by decide +kernel) dX10_layLiars_19 (fun H locs hP hD hS => ?_)
  refine lv_iinc (v := 20) (lv' := [(1, .int 20), (0, .ref a0)]) hx hb dX10_layLiars_20 hl (k := 0) rfl (by decide +kernel) (by decide) rfl (fun ls hl => ?_)
  refine lv_goto (tgt := 7) hx hb dX10_layLiars_23 (by decide) ?_
  refine lv_iload_n hx hb dX10_layLiars_7 rfl (lv_at hl 0 rfl) ?_
  refine lv_bipush (v := 64) hx hb dX10_layLiars_8 (by decide) ?_
  refine lv_icmp_ge (tgt := 26) hx hb dX10_layLiars_10 (by decide) (fun c_ => absurd c_ (by decide +kernel)) (fun _ => ?_)
  refine lv_aload_n hx hb dX10_layLiars_13 rfl (lv_at hl 1 rfl) ?_
  refine k_get hC hK hP iX10 0 61 wf_X10_218 rfl (by decide) rfl rfl dX10_layLiars_14 ?_
  refine lv_iload_n hx hb dX10_layLiars_17 rfl (lv_at hl 0 rfl) ?_
  refine lv_iconst (v := 0) hx hb dX10_layLiars_18 (by decide) ?_
  refine k_zastS hC hK hP hD hS 1 20 rfl (by decide +kernel) (by decide) (by decide +kernel) dX10_layLiars_19 (fun H locs hP hD hS => ?_)
  refine lv_iinc (v := 21) (lv' := [(1, .int 21), (0, .ref a0)]) hx hb dX10_layLiars_20 hl (k := 0) rfl (by decide +kernel) (by decide) rfl (fun ls hl => ?_)
  refine lv_goto (tgt := 7) hx hb dX10_layLiars_23 (by decide) ?_
  refine lv_iload_n hx hb dX10_layLiars_7 rfl (lv_at hl 0 rfl) ?_
  refine lv_bipush (v := 64) hx hb dX10_layLiars_8 (by decide) ?_
  refine lv_icmp_ge (tgt := 26) hx hb dX10_layLiars_10 (by decide) (fun c_ => absurd c_ (by decide +kernel)) (fun _ => ?_)
  refine lv_aload_n hx hb dX10_layLiars_13 rfl (lv_at hl 1 rfl) ?_
  refine k_get hC hK hP iX10 0 61 wf_X10_218 rfl (by decide) rfl rfl dX10_layLiars_14 ?_
  refine lv_iload_n hx hb dX10_layLiars_17 rfl (lv_at hl 0 rfl) ?_
  refine lv_iconst (v := 0) hx hb dX10_layLiars_18 (by decide) ?_
  refine k_zastS hC hK hP hD hS 1 21 rfl (by decide +kernel) (by decide) (by decide +kernel) dX10_layLiars_19 (fun H locs hP hD hS => ?_)
  refine lv_iinc (v := 22) (lv' := [(1, .int 22), (0, .ref a0)]) hx hb dX10_layLiars_20 hl (k := 0) rfl (by decide +kernel) (by decide) rfl (fun ls hl => ?_)
  refine lv_goto (tgt := 7) hx hb dX10_layLiars_23 (by decide) ?_
  refine lv_iload_n hx hb dX10_layLiars_7 rfl (lv_at hl 0 rfl) ?_
  refine lv_bipush (v := 64) hx hb dX10_layLiars_8 (by decide) ?_
  refine lv_icmp_ge (tgt := 26) hx hb dX10_layLiars_10 (by decide) (fun c_ => absurd c_ (by decide +kernel)) (fun _ => ?_)
  refine lv_aload_n hx hb dX10_layLiars_13 rfl (lv_at hl 1 rfl) ?_
  refine k_get hC hK hP iX10 0 61 wf_X10_218 rfl (by decide) rfl rfl dX10_layLiars_14 ?_
  refine lv_iload_n hx hb dX10_layLiars_17 rfl (lv_at hl 0 rfl) ?_
  refine lv_iconst (v := 0) hx hb dX10_layLiars_18 (by decide) ?_
  refine k_zastS hC hK hP hD hS 1 22 rfl (by decide +kernel) (by decide) (by decide +kernel) dX10_layLiars_19 (fun H locs hP hD hS => ?_)
  refine lv_iinc (v := 23) (lv' := [(1, .int 23), (0, .ref a0)]) hx hb dX10_layLiars_20 hl (k := 0) rfl (by decide +kernel) (by decide) rfl (fun ls hl => ?_)
  refine lv_goto (tgt := 7) hx hb dX10_layLiars_23 (by decide) ?_
  refine lv_iload_n hx hb dX10_layLiars_7 rfl (lv_at hl 0 rfl) ?_
  refine lv_bipush (v := 64) hx hb dX10_layLiars_8 (by decide) ?_
  refine lv_icmp_ge (tgt := 26) hx hb dX10_layLiars_10 (by decide) (fun c_ => absurd c_ (by decide +kernel)) (fun _ => ?_)
  refine lv_aload_n hx hb dX10_layLiars_13 rfl (lv_at hl 1 rfl) ?_
  refine k_get hC hK hP iX10 0 61 wf_X10_218 rfl (by decide) rfl rfl dX10_layLiars_14 ?_
  refine lv_iload_n hx hb dX10_layLiars_17 rfl (lv_at hl 0 rfl) ?_
  refine lv_iconst (v := 0) hx hb dX10_layLiars_18 (by decide) ?_
  refine k_zastS hC hK hP hD hS 1 23 rfl (by decide +kernel) (by decide) (by decide +kernel) dX10_layLiars_19 (fun H locs hP hD hS => ?_)
  refine lv_iinc (v := 24) (lv' := [(1, .int 24), (0, .ref a0)]) hx hb dX10_layLiars_20 hl (k := 0) rfl (by decide +kernel) (by decide) rfl (fun ls hl => ?_)
  refine lv_goto (tgt := 7) hx hb dX10_layLiars_23 (by decide) ?_
  refine lv_iload_n hx hb dX10_layLiars_7 rfl (lv_at hl 0 rfl) ?_
  refine lv_bipush (v := 64) hx hb dX10_layLiars_8 (by decide) ?_
  refine lv_icmp_ge (tgt := 26) hx hb dX10_layLiars_10 (by decide) (fun c_ => absurd c_ (by decide +kernel)) (fun _ => ?_)
  refine lv_aload_n hx hb dX10_layLiars_13 rfl (lv_at hl 1 rfl) ?_
  refine k_get hC hK hP iX10 0 61 wf_X10_218 rfl (by decide) rfl rfl dX10_layLiars_14 ?_
  refine lv_iload_n hx hb dX10_layLiars_17 rfl (lv_at hl 0 rfl) ?_
  refine lv_iconst (v := 0) hx hb dX10_layLiars_18 (by decide) ?_
  refine k_zastS hC hK hP hD hS 1 24 rfl (by decide +kernel) (by decide) (by decide +kernel) dX10_layLiars_19 (fun H locs hP hD hS => ?_)
  refine lv_iinc (v := 25) (lv' := [(1, .int 25), (0, .ref a0)]) hx hb dX10_layLiars_20 hl (k := 0) rfl (by decide +kernel) (by decide) rfl (fun ls hl => ?_)
  refine lv_goto (tgt := 7) hx hb dX10_layLiars_23 (by decide) ?_
  refine lv_iload_n hx hb dX10_layLiars_7 rfl (lv_at hl 0 rfl) ?_
  refine lv_bipush (v := 64) hx hb dX10_layLiars_8 (by decide) ?_
  refine lv_icmp_ge (tgt := 26) hx hb dX10_layLiars_10 (by decide) (fun c_ => absurd c_ (by decide +kernel)) (fun _ => ?_)
  refine lv_aload_n hx hb dX10_layLiars_13 rfl (lv_at hl 1 rfl) ?_
  refine k_get hC hK hP iX10 0 61 wf_X10_218 rfl (by decide) rfl rfl dX10_layLiars_14 ?_
  refine lv_iload_n hx hb dX10_layLiars_17 rfl (lv_at hl 0 rfl) ?_
  refine lv_iconst (v := 0) hx hb dX10_layLiars_18 (by decide) ?_
  refine k_zastS hC hK hP hD hS 1 25 rfl (by decide +kernel) (by decide) (by decide +kernel) dX10_layLiars_19 (fun H locs hP hD hS => ?_)
  refine lv_iinc (v := 26) (lv' := [(1, .int 26), (0, .ref a0)]) hx hb dX10_layLiars_20 hl (k := 0) rfl (by decide +kernel) (by decide) rfl (fun ls hl => ?_)
  refine lv_goto (tgt := 7) hx hb dX10_layLiars_23 (by decide) ?_
  refine lv_iload_n hx hb dX10_layLiars_7 rfl (lv_at hl 0 rfl) ?_
  refine lv_bipush (v := 64) hx hb dX10_layLiars_8 (by decide) ?_
  refine lv_icmp_ge (tgt := 26) hx hb dX10_layLiars_10 (by decide) (fun c_ => absurd c_ (by decide +kernel)) (fun _ => ?_)
  refine lv_aload_n hx hb dX10_layLiars_13 rfl (lv_at hl 1 rfl) ?_
  refine k_get hC hK hP iX10 0 61 wf_X10_218 rfl (by decide) rfl rfl dX10_layLiars_14 ?_
  refine lv_iload_n hx hb dX10_layLiars_17 rfl (lv_at hl 0 rfl) ?_
  refine lv_iconst (v := 0) hx hb dX10_layLiars_18 (by decide) ?_
  refine k_zastS hC hK hP hD hS 1 26 rfl (by decide +kernel) (by decide) (by decide +kernel) dX10_layLiars_19 (fun H locs hP hD hS => ?_)
  refine lv_iinc (v := 27) (lv' := [(1, .int 27), (0, .ref a0)]) hx hb dX10_layLiars_20 hl (k := 0) rfl (by decide +kernel) (by decide) rfl (fun ls hl => ?_)
  refine lv_goto (tgt := 7) hx hb dX10_layLiars_23 (by decide) ?_
  refine lv_iload_n hx hb dX10_layLiars_7 rfl (lv_at hl 0 rfl) ?_
  refine lv_bipush (v := 64) hx hb dX10_layLiars_8 (by decide) ?_
  refine lv_icmp_ge (tgt := 26) hx hb dX10_layLiars_10 (by decide) (fun c_ => absurd c_ (by decide +kernel)) (fun _ => ?_)
  refine lv_aload_n hx hb dX10_layLiars_13 rfl (lv_at hl 1 rfl) ?_
  refine k_get hC hK hP iX10 0 61 wf_X10_218 rfl (by decide) rfl rfl dX10_layLiars_14 ?_
  refine lv_iload_n hx hb dX10_layLiars_17 rfl (lv_at hl 0 rfl) ?_
  refine lv_iconst (v := 0) hx hb dX10_layLiars_18 (by decide) ?_
  refine k_zastS hC hK hP hD hS 1 27 rfl (by decide +kernel) (by decide) (by decide +kernel) dX10_layLiars_19 (fun H locs hP hD hS => ?_)
  refine lv_iinc (v := 28) (lv' := [(1, .int 28), (0, .ref a0)]) hx hb dX10_layLiars_20 hl (k := 0) rfl (by decide +kernel) (by decide) rfl (fun ls hl => ?_)
  refine lv_goto (tgt := 7) hx hb dX10_layLiars_23 (by decide) ?_
  refine lv_iload_n hx hb dX10_layLiars_7 rfl (lv_at hl 0 rfl) ?_
  refine lv_bipush (v := 64) hx hb dX10_layLiars_8 (by decide) ?_
  refine lv_icmp_ge (tgt := 26) hx hb dX10_layLiars_10 (by decide) (fun c_ => absurd c_ (by decide +kernel)) (fun _ => ?_)
  refine lv_aload_n hx hb dX10_layLiars_13 rfl (lv_at hl 1 rfl) ?_
  refine k_get hC hK hP iX10 0 61 wf_X10_218 rfl (by decide) rfl rfl dX10_layLiars_14 ?_
  refine lv_iload_n hx hb dX10_layLiars_17 rfl (lv_at hl 0 rfl) ?_
  refine lv_iconst (v := 0) hx hb dX10_layLiars_18 (by decide) ?_
  refine k_zastS hC hK hP hD hS 1 28 rfl (by decide +kernel) (by decide) (by decide +kernel) dX10_layLiars_19 (fun H locs hP hD hS => ?_)
  refine lv_iinc (v := 29) (lv' := [(1, .int 29), (0, .ref a0)]) hx hb dX10_layLiars_20 hl (k := 0) rfl (by decide +kernel) (by decide) rfl (fun ls hl => ?_)
  refine lv_goto (tgt := 7) hx hb dX10_layLiars_23 (by decide) ?_
  refine lv_iload_n hx hb dX10_layLiars_7 rfl (lv_at hl 0 rfl) ?_
  refine lv_bipush (v := 64) hx hb dX10_layLiars_8 (by decide) ?_
  refine lv_icmp_ge (tgt := 26) hx hb dX10_layLiars_10 (by decide) (fun c_ => absurd c_ (by decide +kernel)) (fun _ => ?_)
  refine lv_aload_n hx hb dX10_layLiars_13 rfl (lv_at hl 1 rfl) ?_
  refine k_get hC hK hP iX10 0 61 wf_X10_218 rfl (by decide) rfl rfl dX10_layLiars_14 ?_
  refine lv_iload_n hx hb dX10_layLiars_17 rfl (lv_at hl 0 rfl) ?_
  refine lv_iconst (v := 0) hx hb dX10_layLiars_18 (by decide) ?_
  refine k_zastS hC hK hP hD hS 1 29 rfl (by decide +kernel) (by decide) (by decide +kernel) dX10_layLiars_19 (fun H locs hP hD hS => ?_)
  refine lv_iinc (v := 30) (lv' := [(1, .int 30), (0, .ref a0)]) hx hb dX10_layLiars_20 hl (k := 0) rfl (by decide +kernel) (by decide) rfl (fun ls hl => ?_)
  refine lv_goto (tgt := 7) hx hb dX10_layLiars_23 (by decide) ?_
  refine lv_iload_n hx hb dX10_layLiars_7 rfl (lv_at hl 0 rfl) ?_
  refine lv_bipush (v := 64) hx hb dX10_layLiars_8 (by decide) ?_
  refine lv_icmp_ge (tgt := 26) hx hb dX10_layLiars_10 (by decide) (fun c_ => absurd c_ (by decide +kernel)) (fun _ => ?_)
  refine lv_aload_n hx hb dX10_layLiars_13 rfl (lv_at hl 1 rfl) ?_
  refine k_get hC hK hP iX10 0 61 wf_X10_218 rfl (by decide) rfl rfl dX10_layLiars_14 ?_
  refine lv_iload_n hx hb dX10_layLiars_17 rfl (lv_at hl 0 rfl) ?_
  refine lv_iconst (v := 0) hx hb dX10_layLiars_18 (by decide) ?_
  refine k_zastS hC hK hP hD hS 1 30 rfl (by decide +kernel) (by decide) (by decide +kernel) dX10_layLiars_19 (fun H locs hP hD hS => ?_)
  refine lv_iinc (v := 31) (lv' := [(1, .int 31), (0, .ref a0)]) hx hb dX10_layLiars_20 hl (k := 0) rfl (by decide +kernel) (by decide) rfl (fun ls hl => ?_)
  refine lv_goto (tgt := 7) hx hb dX10_layLiars_23 (by decide) ?_
  refine lv_iload_n hx hb dX10_layLiars_7 rfl (lv_at hl 0 rfl) ?_
  refine lv_bipush (v := 64) hx hb dX10_layLiars_8 (by decide) ?_
  refine lv_icmp_ge (tgt := 26) hx hb dX10_layLiars_10 (by decide) (fun c_ => absurd c_ (by decide +kernel)) (fun _ => ?_)
  refine lv_aload_n hx hb dX10_layLiars_13 rfl (lv_at hl 1 rfl) ?_
  refine k_get hC hK hP iX10 0 61 wf_X10_218 rfl (by decide) rfl rfl dX10_layLiars_14 ?_
  refine lv_iload_n hx hb dX10_layLiars_17 rfl (lv_at hl 0 rfl) ?_
  refine lv_iconst (v := 0) hx hb dX10_layLiars_18 (by decide) ?_
  refine k_zastS hC hK hP hD hS 1 31 rfl (by decide +kernel) (by decide) (by decide +kernel) dX10_layLiars_19 (fun H locs hP hD hS => ?_)
  refine lv_iinc (v := 32) (lv' := [(1, .int 32), (0, .ref a0)]) hx hb dX10_layLiars_20 hl (k := 0) rfl (by decide +kernel) (by decide) rfl (fun ls hl => ?_)
  refine lv_goto (tgt := 7) hx hb dX10_layLiars_23 (by decide) ?_
  refine lv_iload_n hx hb dX10_layLiars_7 rfl (lv_at hl 0 rfl) ?_
  refine lv_bipush (v := 64) hx hb dX10_layLiars_8 (by decide) ?_
  refine lv_icmp_ge (tgt := 26) hx hb dX10_layLiars_10 (by decide) (fun c_ => absurd c_ (by decide +kernel)) (fun _ => ?_)
  refine lv_aload_n hx hb dX10_layLiars_13 rfl (lv_at hl 1 rfl) ?_
  refine k_get hC hK hP iX10 0 61 wf_X10_218 rfl (by decide) rfl rfl dX10_layLiars_14 ?_
  refine lv_iload_n hx hb dX10_layLiars_17 rfl (lv_at hl 0 rfl) ?_
  refine lv_iconst (v := 0) hx hb dX10_layLiars_18 (by decide) ?_
  refine k_zastS hC hK hP hD hS 1 32 rfl (by decide +kernel) (by decide) (by decide +kernel) dX10_layLiars_19 (fun H locs hP hD hS => ?_)
  refine lv_iinc (v := 33) (lv' := [(1, .int 33), (0, .ref a0)]) hx hb dX10_layLiars_20 hl (k := 0) rfl (by decide +kernel) (by decide) rfl (fun ls hl => ?_)
  refine lv_goto (tgt := 7) hx hb dX10_layLiars_23 (by decide) ?_
  refine lv_iload_n hx hb dX10_layLiars_7 rfl (lv_at hl 0 rfl) ?_
  refine lv_bipush (v := 64) hx hb dX10_layLiars_8 (by decide) ?_
  refine lv_icmp_ge (tgt := 26) hx hb dX10_layLiars_10 (by decide) (fun c_ => absurd c_ (by decide +kernel)) (fun _ => ?_)
  refine lv_aload_n hx hb dX10_layLiars_13 rfl (lv_at hl 1 rfl) ?_
  refine k_get hC hK hP iX10 0 61 wf_X10_218 rfl (by decide) rfl rfl dX10_layLiars_14 ?_
  refine lv_iload_n hx hb dX10_layLiars_17 rfl (lv_at hl 0 rfl) ?_
  refine lv_iconst (v := 0) hx hb dX10_layLiars_18 (by decide) ?_
  refine k_zastS hC hK hP hD hS 1 33 rfl (by decide +kernel) (by decide) (by decide +kernel) dX10_layLiars_19 (fun H locs hP hD hS => ?_)
  refine lv_iinc (v := 34) (lv' := [(1, .int 34), (0, .ref a0)]) hx hb dX10_layLiars_20 hl (k := 0) rfl (by decide +kernel) (by decide) rfl (fun ls hl => ?_)
  refine lv_goto (tgt := 7) hx hb dX10_layLiars_23 (by decide) ?_
  refine lv_iload_n hx hb dX10_layLiars_7 rfl (lv_at hl 0 rfl) ?_
  refine lv_bipush (v := 64) hx hb dX10_layLiars_8 (by decide) ?_
  refine lv_icmp_ge (tgt := 26) hx hb dX10_layLiars_10 (by decide) (fun c_ => absurd c_ (by decide +kernel)) (fun _ => ?_)
  refine lv_aload_n hx hb dX10_layLiars_13 rfl (lv_at hl 1 rfl) ?_
  refine k_get hC hK hP iX10 0 61 wf_X10_218 rfl (by decide) rfl rfl dX10_layLiars_14 ?_
  refine lv_iload_n hx hb dX10_layLiars_17 rfl (lv_at hl 0 rfl) ?_
  refine lv_iconst (v := 0) hx hb dX10_layLiars_18 (by decide) ?_
  refine k_zastS hC hK hP hD hS 1 34 rfl (by decide +kernel) (by decide) (by decide +kernel) dX10_layLiars_19 (fun H locs hP hD hS => ?_)
  refine lv_iinc (v := 35) (lv' := [(1, .int 35), (0, .ref a0)]) hx hb dX10_layLiars_20 hl (k := 0) rfl (by decide +kernel) (by decide) rfl (fun ls hl => ?_)
  refine lv_goto (tgt := 7) hx hb dX10_layLiars_23 (by decide) ?_
  refine lv_iload_n hx hb dX10_layLiars_7 rfl (lv_at hl 0 rfl) ?_
  refine lv_bipush (v := 64) hx hb dX10_layLiars_8 (by decide) ?_
  refine lv_icmp_ge (tgt := 26) hx hb dX10_layLiars_10 (by decide) (fun c_ => absurd c_ (by decide +kernel)) (fun _ => ?_)
  refine lv_aload_n hx hb dX10_layLiars_13 rfl (lv_at hl 1 rfl) ?_
  refine k_get hC hK hP iX10 0 61 wf_X10_218 rfl (by decide) rfl rfl dX10_layLiars_14 ?_
  refine lv_iload_n hx hb dX10_layLiars_17 rfl (lv_at hl 0 rfl) ?_
  refine lv_iconst (v := 0) hx hb dX10_layLiars_18 (by decide) ?_
  refine k_zastS hC hK hP hD hS 1 35 rfl (by decide +kernel) (by decide) (by decide +kernel) dX10_layLiars_19 (fun H locs hP hD hS => ?_)
  refine lv_iinc (v := 36) (lv' := [(1, .int 36), (0, .ref a0)]) hx hb dX10_layLiars_20 hl (k := 0) rfl (by decide +kernel) (by decide) rfl (fun ls hl => ?_)
  refine lv_goto (tgt := 7) hx hb dX10_layLiars_23 (by decide) ?_
  refine lv_iload_n hx hb dX10_layLiars_7 rfl (lv_at hl 0 rfl) ?_
  refine lv_bipush (v := 64) hx hb dX10_layLiars_8 (by decide) ?_
  refine lv_icmp_ge (tgt := 26) hx hb dX10_layLiars_10 (by decide) (fun c_ => absurd c_ (by decide +kernel)) (fun _ => ?_)
  refine lv_aload_n hx hb dX10_layLiars_13 rfl (lv_at hl 1 rfl) ?_
  refine k_get hC hK hP iX10 0 61 wf_X10_218 rfl (by decide) rfl rfl dX10_layLiars_14 ?_
  refine lv_iload_n hx hb dX10_layLiars_17 rfl (lv_at hl 0 rfl) ?_
  refine lv_iconst (v := 0) hx hb dX10_layLiars_18 (by decide) ?_
  refine k_zastS hC hK hP hD hS 1 36 rfl (by decide +kernel) (by decide) (by decide +kernel) dX10_layLiars_19 (fun H locs hP hD hS => ?_)
  refine lv_iinc (v := 37) (lv' := [(1, .int 37), (0, .ref a0)]) hx hb dX10_layLiars_20 hl (k := 0) rfl (by decide +kernel) (by decide) rfl (fun ls hl => ?_)
  refine lv_goto (tgt := 7) hx hb dX10_layLiars_23 (by decide) ?_
  refine lv_iload_n hx hb dX10_layLiars_7 rfl (lv_at hl 0 rfl) ?_
  refine lv_bipush (v := 64) hx hb dX10_layLiars_8 (by decide) ?_
  refine lv_icmp_ge (tgt := 26) hx hb dX10_layLiars_10 (by decide) (fun c_ => absurd c_ (by decide +kernel)) (fun _ => ?_)
  refine lv_aload_n hx hb dX10_layLiars_13 rfl (lv_at hl 1 rfl) ?_
  refine k_get hC hK hP iX10 0 61 wf_X10_218 rfl (by decide) rfl rfl dX10_layLiars_14 ?_
  refine lv_iload_n hx hb dX10_layLiars_17 rfl (lv_at hl 0 rfl) ?_
  refine lv_iconst (v := 0) hx hb dX10_layLiars_18 (by decide) ?_
  refine k_zastS hC hK hP hD hS 1 37 rfl (by decide +kernel) (by decide) (by decide +kernel) dX10_layLiars_19 (fun H locs hP hD hS => ?_)
  refine lv_iinc (v := 38) (lv' := [(1, .int 38), (0, .ref a0)]) hx hb dX10_layLiars_20 hl (k := 0) rfl (by decide +kernel) (by decide) rfl (fun ls hl => ?_)
  refine lv_goto (tgt := 7) hx hb dX10_layLiars_23 (by decide) ?_
  refine lv_iload_n hx hb dX10_layLiars_7 rfl (lv_at hl 0 rfl) ?_
  refine lv_bipush (v := 64) hx hb dX10_layLiars_8 (by decide) ?_
  refine lv_icmp_ge (tgt := 26) hx hb dX10_layLiars_10 (by decide) (fun c_ => absurd c_ (by decide +kernel)) (fun _ => ?_)
  refine lv_aload_n hx hb dX10_layLiars_13 rfl (lv_at hl 1 rfl) ?_
  refine k_get hC hK hP iX10 0 61 wf_X10_218 rfl (by decide) rfl rfl dX10_layLiars_14 ?_
  refine lv_iload_n hx hb dX10_layLiars_17 rfl (lv_at hl 0 rfl) ?_
  refine lv_iconst (v := 0) hx hb dX10_layLiars_18 (by decide) ?_
  refine k_zastS hC hK hP hD hS 1 38 rfl (by decide +kernel) (by decide) (by decide +kernel) dX10_layLiars_19 (fun H locs hP hD hS => ?_)
  refine lv_iinc (v := 39) (lv' := [(1, .int 39), (0, .ref a0)]) hx hb dX10_layLiars_20 hl (k := 0) rfl (by decide +kernel) (by decide) rfl (fun ls hl => ?_)
  refine lv_goto (tgt := 7) hx hb dX10_layLiars_23 (by decide) ?_
  refine lv_iload_n hx hb dX10_layLiars_7 rfl (lv_at hl 0 rfl) ?_
  refine lv_bipush (v := 64) hx hb dX10_layLiars_8 (by decide) ?_
  refine lv_icmp_ge (tgt := 26) hx hb dX10_layLiars_10 (by decide) (fun c_ => absurd c_ (by decide +kernel)) (fun _ => ?_)
  refine lv_aload_n hx hb dX10_layLiars_13 rfl (lv_at hl 1 rfl) ?_
  refine k_get hC hK hP iX10 0 61 wf_X10_218 rfl (by decide) rfl rfl dX10_layLiars_14 ?_
  refine lv_iload_n hx hb dX10_layLiars_17 rfl (lv_at hl 0 rfl) ?_
  refine lv_iconst (v := 0) hx hb dX10_layLiars_18 (by decide) ?_
  refine k_zastS hC hK hP hD hS 1 39 rfl (by decide +kernel) (by decide) (by decide +kernel) dX10_layLiars_19 (fun H locs hP hD hS => ?_)
  refine lv_iinc (v := 40) (lv' := [(1, .int 40), (0, .ref a0)]) hx hb dX10_layLiars_20 hl (k := 0) rfl (by decide +kernel) (by decide) rfl (fun ls hl => ?_)
  refine lv_goto (tgt := 7) hx hb dX10_layLiars_23 (by decide) ?_
  refine lv_iload_n hx hb dX10_layLiars_7 rfl (lv_at hl 0 rfl) ?_
  refine lv_bipush (v := 64) hx hb dX10_layLiars_8 (by decide) ?_
  refine lv_icmp_ge (tgt := 26) hx hb dX10_layLiars_10 (by decide) (fun c_ => absurd c_ (by decide +kernel)) (fun _ => ?_)
  refine lv_aload_n hx hb dX10_layLiars_13 rfl (lv_at hl 1 rfl) ?_
  refine k_get hC hK hP iX10 0 61 wf_X10_218 rfl (by decide) rfl rfl dX10_layLiars_14 ?_
  refine lv_iload_n hx hb dX10_layLiars_17 rfl (lv_at hl 0 rfl) ?_
  refine lv_iconst (v := 0) hx hb dX10_layLiars_18 (by decide) ?_
  refine k_zastS hC hK hP hD hS 1 40 rfl (by decide +kernel) (by decide) (by decide +kernel) dX10_layLiars_19 (fun H locs hP hD hS => ?_)
  refine lv_iinc (v := 41) (lv' := [(1, .int 41), (0, .ref a0)]) hx hb dX10_layLiars_20 hl (k := 0) rfl (by decide +kernel) (by decide) rfl (fun ls hl => ?_)
  refine lv_goto (tgt := 7) hx hb dX10_layLiars_23 (by decide) ?_
  refine lv_iload_n hx hb dX10_layLiars_7 rfl (lv_at hl 0 rfl) ?_
  refine lv_bipush (v := 64) hx hb dX10_layLiars_8 (by decide) ?_
  refine lv_icmp_ge (tgt := 26) hx hb dX10_layLiars_10 (by decide) (fun c_ => absurd c_ (by decide +kernel)) (fun _ => ?_)
  refine lv_aload_n hx hb dX10_layLiars_13 rfl (lv_at hl 1 rfl) ?_
  refine k_get hC hK hP iX10 0 61 wf_X10_218 rfl (by decide) rfl rfl dX10_layLiars_14 ?_
  refine lv_iload_n hx hb dX10_layLiars_17 rfl (lv_at hl 0 rfl) ?_
  refine lv_iconst (v := 0) hx hb dX10_layLiars_18 (by decide) ?_
  refine k_zastS hC hK hP hD hS 1 41 rfl (by decide +kernel) (by decide) (by decide +kernel) dX10_layLiars_19 (fun H locs hP hD hS => ?_)
  refine lv_iinc (v := 42) (lv' := [(1, .int 42), (0, .ref a0)]) hx hb dX10_layLiars_20 hl (k := 0) rfl (by decide +kernel) (by decide) rfl (fun ls hl => ?_)
  refine lv_goto (tgt := 7) hx hb dX10_layLiars_23 (by decide) ?_
  refine lv_iload_n hx hb dX10_layLiars_7 rfl (lv_at hl 0 rfl) ?_
  refine lv_bipush (v := 64) hx hb dX10_layLiars_8 (by decide) ?_
  refine lv_icmp_ge (tgt := 26) hx hb dX10_layLiars_10 (by decide) (fun c_ => absurd c_ (by decide +kernel)) (fun _ => ?_)
  refine lv_aload_n hx hb dX10_layLiars_13 rfl (lv_at hl 1 rfl) ?_
  refine k_get hC hK hP iX10 0 61 wf_X10_218 rfl (by decide) rfl rfl dX10_layLiars_14 ?_
  refine lv_iload_n hx hb dX10_layLiars_17 rfl (lv_at hl 0 rfl) ?_
  refine lv_iconst (v := 0) hx hb dX10_layLiars_18 (by decide) ?_
  refine k_zastS hC hK hP hD hS 1 42 rfl (by decide +kernel) (by decide) (by decide +kernel) dX10_layLiars_19 (fun H locs hP hD hS => ?_)
  refine lv_iinc (v := 43) (lv' := [(1, .int 43), (0, .ref a0)]) hx hb dX10_layLiars_20 hl (k := 0) rfl (by decide +kernel) (by decide) rfl (fun ls hl => ?_)
  refine lv_goto (tgt := 7) hx hb dX10_layLiars_23 (by decide) ?_
  refine lv_iload_n hx hb dX10_layLiars_7 rfl (lv_at hl 0 rfl) ?_
  refine lv_bipush (v := 64) hx hb dX10_layLiars_8 (by decide) ?_
  refine lv_icmp_ge (tgt := 26) hx hb dX10_layLiars_10 (by decide) (fun c_ => absurd c_ (by decide +kernel)) (fun _ => ?_)
  refine lv_aload_n hx hb dX10_layLiars_13 rfl (lv_at hl 1 rfl) ?_
  refine k_get hC hK hP iX10 0 61 wf_X10_218 rfl (by decide) rfl rfl dX10_layLiars_14 ?_
  refine lv_iload_n hx hb dX10_layLiars_17 rfl (lv_at hl 0 rfl) ?_
  refine lv_iconst (v := 0) hx hb dX10_layLiars_18 (by decide) ?_
  refine k_zastS hC hK hP hD hS 1 43 rfl (by decide +kernel) (by decide) (by decide +kernel) dX10_layLiars_19 (fun H locs hP hD hS => ?_)
  refine lv_iinc (v := 44) (lv' := [(1, .int 44), (0, .ref a0)]) hx hb dX10_layLiars_20 hl (k := 0) rfl (by decide +kernel) (by decide) rfl (fun ls hl => ?_)
  refine lv_goto (tgt := 7) hx hb dX10_layLiars_23 (by decide) ?_
  refine lv_iload_n hx hb dX10_layLiars_7 rfl (lv_at hl 0 rfl) ?_
  refine lv_bipush (v := 64) hx hb dX10_layLiars_8 (by decide) ?_
  refine lv_icmp_ge (tgt := 26) hx hb dX10_layLiars_10 (by decide) (fun c_ => absurd c_ (by decide +kernel)) (fun _ => ?_)
  refine lv_aload_n hx hb dX10_layLiars_13 rfl (lv_at hl 1 rfl) ?_
  refine k_get hC hK hP iX10 0 61 wf_X10_218 rfl (by decide) rfl rfl dX10_layLiars_14 ?_
  refine lv_iload_n hx hb dX10_layLiars_17 rfl (lv_at hl 0 rfl) ?_
  refine lv_iconst (v := 0) hx hb dX10_layLiars_18 (by decide) ?_
  refine k_zastS hC hK hP hD hS 1 44 rfl (by decide +kernel) (by decide) (by decide +kernel) dX10_layLiars_19 (fun H locs hP hD hS => ?_)
  refine lv_iinc (v := 45) (lv' := [(1, .int 45), (0, .ref a0)]) hx hb dX10_layLiars_20 hl (k := 0) rfl (by decide +kernel) (by decide) rfl (fun ls hl => ?_)
  refine lv_goto (tgt := 7) hx hb dX10_layLiars_23 (by decide) ?_
  refine lv_iload_n hx hb dX10_layLiars_7 rfl (lv_at hl 0 rfl) ?_
  refine lv_bipush (v := 64) hx hb dX10_layLiars_8 (by decide) ?_
  refine lv_icmp_ge (tgt := 26) hx hb dX10_layLiars_10 (by decide) (fun c_ => absurd c_ (by decide +kernel)) (fun _ => ?_)
  refine lv_aload_n hx hb dX10_layLiars_13 rfl (lv_at hl 1 rfl) ?_
  refine k_get hC hK hP iX10 0 61 wf_X10_218 rfl (by decide) rfl rfl dX10_layLiars_14 ?_
  refine lv_iload_n hx hb dX10_layLiars_17 rfl (lv_at hl 0 rfl) ?_
  refine lv_iconst (v := 0) hx hb dX10_layLiars_18 (by decide) ?_
  refine k_zastS hC hK hP hD hS 1 45 rfl (by decide +kernel) (by decide) (by decide +kernel) dX10_layLiars_19 (fun H locs hP hD hS => ?_)
  refine lv_iinc (v := 46) (lv' := [(1, .int 46), (0, .ref a0)]) hx hb dX10_layLiars_20 hl (k := 0) rfl (by decide +kernel) (by decide) rfl (fun ls hl => ?_)
  refine lv_goto (tgt := 7) hx hb dX10_layLiars_23 (by decide) ?_
  refine lv_iload_n hx hb dX10_layLiars_7 rfl (lv_at hl 0 rfl) ?_
  refine lv_bipush (v := 64) hx hb dX10_layLiars_8 (by decide) ?_
  refine lv_icmp_ge (tgt := 26) hx hb dX10_layLiars_10 (by decide) (fun c_ => absurd c_ (by decide +kernel)) (fun _ => ?_)
  refine lv_aload_n hx hb dX10_layLiars_13 rfl (lv_at hl 1 rfl) ?_
  refine k_get hC hK hP iX10 0 61 wf_X10_218 rfl (by decide) rfl rfl dX10_layLiars_14 ?_
  refine lv_iload_n hx hb dX10_layLiars_17 rfl (lv_at hl 0 rfl) ?_
  refine lv_iconst (v := 0) hx hb dX10_layLiars_18 (by decide) ?_
  refine k_zastS hC hK hP hD hS 1 46 rfl (by decide +kernel) (by decide) (by decide +kernel) dX10_layLiars_19 (fun H locs hP hD hS => ?_)
  refine lv_iinc (v := 47) (lv' := [(1, .int 47), (0, .ref a0)]) hx hb dX10_layLiars_20 hl (k := 0) rfl (by decide +kernel) (by decide) rfl (fun ls hl => ?_)
  refine lv_goto (tgt := 7) hx hb dX10_layLiars_23 (by decide) ?_
  refine lv_iload_n hx hb dX10_layLiars_7 rfl (lv_at hl 0 rfl) ?_
  refine lv_bipush (v := 64) hx hb dX10_layLiars_8 (by decide) ?_
  refine lv_icmp_ge (tgt := 26) hx hb dX10_layLiars_10 (by decide) (fun c_ => absurd c_ (by decide +kernel)) (fun _ => ?_)
  refine lv_aload_n hx hb dX10_layLiars_13 rfl (lv_at hl 1 rfl) ?_
  refine k_get hC hK hP iX10 0 61 wf_X10_218 rfl (by decide) rfl rfl dX10_layLiars_14 ?_
  refine lv_iload_n hx hb dX10_layLiars_17 rfl (lv_at hl 0 rfl) ?_
  refine lv_iconst (v := 0) hx hb dX10_layLiars_18 (by decide) ?_
  refine k_zastS hC hK hP hD hS 1 47 rfl (by decide +kernel) (by decide) (by decide +kernel) dX10_layLiars_19 (fun H locs hP hD hS => ?_)
  refine lv_iinc (v := 48) (lv' := [(1, .int 48), (0, .ref a0)]) hx hb dX10_layLiars_20 hl (k := 0) rfl (by decide +kernel) (by decide) rfl (fun ls hl => ?_)
  refine lv_goto (tgt := 7) hx hb dX10_layLiars_23 (by decide) ?_
  refine lv_iload_n hx hb dX10_layLiars_7 rfl (lv_at hl 0 rfl) ?_
  refine lv_bipush (v := 64) hx hb dX10_layLiars_8 (by decide) ?_
  refine lv_icmp_ge (tgt := 26) hx hb dX10_layLiars_10 (by decide) (fun c_ => absurd c_ (by decide +kernel)) (fun _ => ?_)
  refine lv_aload_n hx hb dX10_layLiars_13 rfl (lv_at hl 1 rfl) ?_
  refine k_get hC hK hP iX10 0 61 wf_X10_218 rfl (by decide) rfl rfl dX10_layLiars_14 ?_
  refine lv_iload_n hx hb dX10_layLiars_17 rfl (lv_at hl 0 rfl) ?_
  refine lv_iconst (v := 0) hx hb dX10_layLiars_18 (by decide) ?_
  refine k_zastS hC hK hP hD hS 1 48 rfl (by decide +kernel) (by decide) (by decide +kernel) dX10_layLiars_19 (fun H locs hP hD hS => ?_)
  refine lv_iinc (v := 49) (lv' := [(1, .int 49), (0, .ref a0)]) hx hb dX10_layLiars_20 hl (k := 0) rfl (by decide +kernel) (by decide) rfl (fun ls hl => ?_)
  refine lv_goto (tgt := 7) hx hb dX10_layLiars_23 (by decide) ?_
  refine lv_iload_n hx hb dX10_layLiars_7 rfl (lv_at hl 0 rfl) ?_
  refine lv_bipush (v := 64) hx hb dX10_layLiars_8 (by decide) ?_
  refine lv_icmp_ge (tgt := 26) hx hb dX10_layLiars_10 (by decide) (fun c_ => absurd c_ (by decide +kernel)) (fun _ => ?_)
  refine lv_aload_n hx hb dX10_layLiars_13 rfl (lv_at hl 1 rfl) ?_
  refine k_get hC hK hP iX10 0 61 wf_X10_218 rfl (by decide) rfl rfl dX10_layLiars_14 ?_
  refine lv_iload_n hx hb dX10_layLiars_17 rfl (lv_at hl 0 rfl) ?_
  refine lv_iconst (v := 0) hx hb dX10_layLiars_18 (by decide) ?_
  refine k_zastS hC hK hP hD hS 1 49 rfl (by decide +kernel) (by decide) (by decide +kernel) dX10_layLiars_19 (fun H locs hP hD hS => ?_)
  refine lv_iinc (v := 50) (lv' := [(1, .int 50), (0, .ref a0)]) hx hb dX10_layLiars_20 hl (k := 0) rfl (by decide +kernel) (by decide) rfl (fun ls hl => ?_)
  refine lv_goto (tgt := 7) hx hb dX10_layLiars_23 (by decide) ?_
  refine lv_iload_n hx hb dX10_layLiars_7 rfl (lv_at hl 0 rfl) ?_
  refine lv_bipush (v := 64) hx hb dX10_layLiars_8 (by decide) ?_
  refine lv_icmp_ge (tgt := 26) hx hb dX10_layLiars_10 (by decide) (fun c_ => absurd c_ (by decide +kernel)) (fun _ => ?_)
  refine lv_aload_n hx hb dX10_layLiars_13 rfl (lv_at hl 1 rfl) ?_
  refine k_get hC hK hP iX10 0 61 wf_X10_218 rfl (by decide) rfl rfl dX10_layLiars_14 ?_
  refine lv_iload_n hx hb dX10_layLiars_17 rfl (lv_at hl 0 rfl) ?_
  refine lv_iconst (v := 0) hx hb dX10_layLiars_18 (by decide) ?_
  refine k_zastS hC hK hP hD hS 1 50 rfl (by decide +kernel) (by decide) (by decide +kernel) dX10_layLiars_19 (fun H locs hP hD hS => ?_)
  refine lv_iinc (v := 51) (lv' := [(1, .int 51), (0, .ref a0)]) hx hb dX10_layLiars_20 hl (k := 0) rfl (by decide +kernel) (by decide) rfl (fun ls hl => ?_)
  refine lv_goto (tgt := 7) hx hb dX10_layLiars_23 (by decide) ?_
  refine lv_iload_n hx hb dX10_layLiars_7 rfl (lv_at hl 0 rfl) ?_
  refine lv_bipush (v := 64) hx hb dX10_layLiars_8 (by decide) ?_
  refine lv_icmp_ge (tgt := 26) hx hb dX10_layLiars_10 (by decide) (fun c_ => absurd c_ (by decide +kernel)) (fun _ => ?_)
  refine lv_aload_n hx hb dX10_layLiars_13 rfl (lv_at hl 1 rfl) ?_
  refine k_get hC hK hP iX10 0 61 wf_X10_218 rfl (by decide) rfl rfl dX10_layLiars_14 ?_
  refine lv_iload_n hx hb dX10_layLiars_17 rfl (lv_at hl 0 rfl) ?_
  refine lv_iconst (v := 0) hx hb dX10_layLiars_18 (by decide) ?_
  refine k_zastS hC hK hP hD hS 1 51 rfl (by decide +kernel) (by decide) (by decide +kernel) dX10_layLiars_19 (fun H locs hP hD hS => ?_)
  refine lv_iinc (v := 52) (lv' := [(1, .int 52), (0, .ref a0)]) hx hb dX10_layLiars_20 hl (k := 0) rfl (by decide +kernel) (by decide) rfl (fun ls hl => ?_)
  refine lv_goto (tgt := 7) hx hb dX10_layLiars_23 (by decide) ?_
  refine lv_iload_n hx hb dX10_layLiars_7 rfl (lv_at hl 0 rfl) ?_
  refine lv_bipush (v := 64) hx hb dX10_layLiars_8 (by decide) ?_
  refine lv_icmp_ge (tgt := 26) hx hb dX10_layLiars_10 (by decide) (fun c_ => absurd c_ (by decide +kernel)) (fun _ => ?_)
  refine lv_aload_n hx hb dX10_layLiars_13 rfl (lv_at hl 1 rfl) ?_
  refine k_get hC hK hP iX10 0 61 wf_X10_218 rfl (by decide) rfl rfl dX10_layLiars_14 ?_
  refine lv_iload_n hx hb dX10_layLiars_17 rfl (lv_at hl 0 rfl) ?_
  refine lv_iconst (v := 0) hx hb dX10_layLiars_18 (by decide) ?_
  refine k_zastS hC hK hP hD hS 1 52 rfl (by decide +kernel) (by decide) (by decide +kernel) dX10_layLiars_19 (fun H locs hP hD hS => ?_)
  refine lv_iinc (v := 53) (lv' := [(1, .int 53), (0, .ref a0)]) hx hb dX10_layLiars_20 hl (k := 0) rfl (by decide +kernel) (by decide) rfl (fun ls hl => ?_)
  refine lv_goto (tgt := 7) hx hb dX10_layLiars_23 (by decide) ?_
  refine lv_iload_n hx hb dX10_layLiars_7 rfl (lv_at hl 0 rfl) ?_
  refine lv_bipush (v := 64) hx hb dX10_layLiars_8 (by decide) ?_
  refine lv_icmp_ge (tgt := 26) hx hb dX10_layLiars_10 (by decide) (fun c_ => absurd c_ (by decide +kernel)) (fun _ => ?_)
  refine lv_aload_n hx hb dX10_layLiars_13 rfl (lv_at hl 1 rfl) ?_
  refine k_get hC hK hP iX10 0 61 wf_X10_218 rfl (by decide) rfl rfl dX10_layLiars_14 ?_
  refine lv_iload_n hx hb dX10_layLiars_17 rfl (lv_at hl 0 rfl) ?_
  refine lv_iconst (v := 0) hx hb dX10_layLiars_18 (by decide) ?_
  refine k_zastS hC hK hP hD hS 1 53 rfl (by decide +kernel) (by decide) (by decide +kernel) dX10_layLiars_19 (fun H locs hP hD hS => ?_)
  refine lv_iinc (v := 54) (lv' := [(1, .int 54), (0, .ref a0)]) hx hb dX10_layLiars_20 hl (k := 0) rfl (by decide +kernel) (by decide) rfl (fun ls hl => ?_)
  refine lv_goto (tgt := 7) hx hb dX10_layLiars_23 (by decide) ?_
  refine lv_iload_n hx hb dX10_layLiars_7 rfl (lv_at hl 0 rfl) ?_
  refine lv_bipush (v := 64) hx hb dX10_layLiars_8 (by decide) ?_
  refine lv_icmp_ge (tgt := 26) hx hb dX10_layLiars_10 (by decide) (fun c_ => absurd c_ (by decide +kernel)) (fun _ => ?_)
  refine lv_aload_n hx hb dX10_layLiars_13 rfl (lv_at hl 1 rfl) ?_
  refine k_get hC hK hP iX10 0 61 wf_X10_218 rfl (by decide) rfl rfl dX10_layLiars_14 ?_
  refine lv_iload_n hx hb dX10_layLiars_17 rfl (lv_at hl 0 rfl) ?_
  refine lv_iconst (v := 0) hx hb dX10_layLiars_18 (by decide) ?_
  refine k_zastS hC hK hP hD hS 1 54 rfl (by decide +kernel) (by decide) (by decide +kernel) dX10_layLiars_19 (fun H locs hP hD hS => ?_)
  refine lv_iinc (v := 55) (lv' := [(1, .int 55), (0, .ref a0)]) hx hb dX10_layLiars_20 hl (k := 0) rfl (by decide +kernel) (by decide) rfl (fun ls hl => ?_)
  refine lv_goto (tgt := 7) hx hb dX10_layLiars_23 (by decide) ?_
  refine lv_iload_n hx hb dX10_layLiars_7 rfl (lv_at hl 0 rfl) ?_
  refine lv_bipush (v := 64) hx hb dX10_layLiars_8 (by decide) ?_
  refine lv_icmp_ge (tgt := 26) hx hb dX10_layLiars_10 (by decide) (fun c_ => absurd c_ (by decide +kernel)) (fun _ => ?_)
  refine lv_aload_n hx hb dX10_layLiars_13 rfl (lv_at hl 1 rfl) ?_
  refine k_get hC hK hP iX10 0 61 wf_X10_218 rfl (by decide) rfl rfl dX10_layLiars_14 ?_
  refine lv_iload_n hx hb dX10_layLiars_17 rfl (lv_at hl 0 rfl) ?_
  refine lv_iconst (v := 0) hx hb dX10_layLiars_18 (by decide) ?_
  refine k_zastS hC hK hP hD hS 1 55 rfl (by decide +kernel) (by decide) (by decide +kernel) dX10_layLiars_19 (fun H locs hP hD hS => ?_)
  refine lv_iinc (v := 56) (lv' := [(1, .int 56), (0, .ref a0)]) hx hb dX10_layLiars_20 hl (k := 0) rfl (by decide +kernel) (by decide) rfl (fun ls hl => ?_)
  refine lv_goto (tgt := 7) hx hb dX10_layLiars_23 (by decide) ?_
  refine lv_iload_n hx hb dX10_layLiars_7 rfl (lv_at hl 0 rfl) ?_
  refine lv_bipush (v := 64) hx hb dX10_layLiars_8 (by decide) ?_
  refine lv_icmp_ge (tgt := 26) hx hb dX10_layLiars_10 (by decide) (fun c_ => absurd c_ (by decide +kernel)) (fun _ => ?_)
  refine lv_aload_n hx hb dX10_layLiars_13 rfl (lv_at hl 1 rfl) ?_
  refine k_get hC hK hP iX10 0 61 wf_X10_218 rfl (by decide) rfl rfl dX10_layLiars_14 ?_
  refine lv_iload_n hx hb dX10_layLiars_17 rfl (lv_at hl 0 rfl) ?_
  refine lv_iconst (v := 0) hx hb dX10_layLiars_18 (by decide) ?_
  refine k_zastS hC hK hP hD hS 1 56 rfl (by decide +kernel) (by decide) (by decide +kernel) dX10_layLiars_19 (fun H locs hP hD hS => ?_)
  refine lv_iinc (v := 57) (lv' := [(1, .int 57), (0, .ref a0)]) hx hb dX10_layLiars_20 hl (k := 0) rfl (by decide +kernel) (by decide) rfl (fun ls hl => ?_)
  refine lv_goto (tgt := 7) hx hb dX10_layLiars_23 (by decide) ?_
  refine lv_iload_n hx hb dX10_layLiars_7 rfl (lv_at hl 0 rfl) ?_
  refine lv_bipush (v := 64) hx hb dX10_layLiars_8 (by decide) ?_
  refine lv_icmp_ge (tgt := 26) hx hb dX10_layLiars_10 (by decide) (fun c_ => absurd c_ (by decide +kernel)) (fun _ => ?_)
  refine lv_aload_n hx hb dX10_layLiars_13 rfl (lv_at hl 1 rfl) ?_
  refine k_get hC hK hP iX10 0 61 wf_X10_218 rfl (by decide) rfl rfl dX10_layLiars_14 ?_
  refine lv_iload_n hx hb dX10_layLiars_17 rfl (lv_at hl 0 rfl) ?_
  refine lv_iconst (v := 0) hx hb dX10_layLiars_18 (by decide) ?_
  refine k_zastS hC hK hP hD hS 1 57 rfl (by decide +kernel) (by decide) (by decide +kernel) dX10_layLiars_19 (fun H locs hP hD hS => ?_)
  refine lv_iinc (v := 58) (lv' := [(1, .int 58), (0, .ref a0)]) hx hb dX10_layLiars_20 hl (k := 0) rfl (by decide +kernel) (by decide) rfl (fun ls hl => ?_)
  refine lv_goto (tgt := 7) hx hb dX10_layLiars_23 (by decide) ?_
  refine lv_iload_n hx hb dX10_layLiars_7 rfl (lv_at hl 0 rfl) ?_
  refine lv_bipush (v := 64) hx hb dX10_layLiars_8 (by decide) ?_
  refine lv_icmp_ge (tgt := 26) hx hb dX10_layLiars_10 (by decide) (fun c_ => absurd c_ (by decide +kernel)) (fun _ => ?_)
  refine lv_aload_n hx hb dX10_layLiars_13 rfl (lv_at hl 1 rfl) ?_
  refine k_get hC hK hP iX10 0 61 wf_X10_218 rfl (by decide) rfl rfl dX10_layLiars_14 ?_
  refine lv_iload_n hx hb dX10_layLiars_17 rfl (lv_at hl 0 rfl) ?_
  refine lv_iconst (v := 0) hx hb dX10_layLiars_18 (by decide) ?_
  refine k_zastS hC hK hP hD hS 1 58 rfl (by decide +kernel) (by decide) (by decide +kernel) dX10_layLiars_19 (fun H locs hP hD hS => ?_)
  refine lv_iinc (v := 59) (lv' := [(1, .int 59), (0, .ref a0)]) hx hb dX10_layLiars_20 hl (k := 0) rfl (by decide +kernel) (by decide) rfl (fun ls hl => ?_)
  refine lv_goto (tgt := 7) hx hb dX10_layLiars_23 (by decide) ?_
  refine lv_iload_n hx hb dX10_layLiars_7 rfl (lv_at hl 0 rfl) ?_
  refine lv_bipush (v := 64) hx hb dX10_layLiars_8 (by decide) ?_
  refine lv_icmp_ge (tgt := 26) hx hb dX10_layLiars_10 (by decide) (fun c_ => absurd c_ (by decide +kernel)) (fun _ => ?_)
  refine lv_aload_n hx hb dX10_layLiars_13 rfl (lv_at hl 1 rfl) ?_
  refine k_get hC hK hP iX10 0 61 wf_X10_218 rfl (by decide) rfl rfl dX10_layLiars_14 ?_
  refine lv_iload_n hx hb dX10_layLiars_17 rfl (lv_at hl 0 rfl) ?_
  refine lv_iconst (v := 0) hx hb dX10_layLiars_18 (by decide) ?_
  refine k_zastS hC hK hP hD hS 1 59 rfl (by decide +kernel) (by decide) (by decide +kernel) dX10_layLiars_19 (fun H locs hP hD hS => ?_)
  refine lv_iinc (v := 60) (lv' := [(1, .int 60), (0, .ref a0)]) hx hb dX10_layLiars_20 hl (k := 0) rfl (by decide +kernel) (by decide) rfl (fun ls hl => ?_)
  refine lv_goto (tgt := 7) hx hb dX10_layLiars_23 (by decide) ?_
  refine lv_iload_n hx hb dX10_layLiars_7 rfl (lv_at hl 0 rfl) ?_
  refine lv_bipush (v := 64) hx hb dX10_layLiars_8 (by decide) ?_
  refine lv_icmp_ge (tgt := 26) hx hb dX10_layLiars_10 (by decide) (fun c_ => absurd c_ (by decide +kernel)) (fun _ => ?_)
  refine lv_aload_n hx hb dX10_layLiars_13 rfl (lv_at hl 1 rfl) ?_
  refine k_get hC hK hP iX10 0 61 wf_X10_218 rfl (by decide) rfl rfl dX10_layLiars_14 ?_
  refine lv_iload_n hx hb dX10_layLiars_17 rfl (lv_at hl 0 rfl) ?_
  refine lv_iconst (v := 0) hx hb dX10_layLiars_18 (by decide) ?_
  refine k_zastS hC hK hP hD hS 1 60 rfl (by decide +kernel) (by decide) (by decide +kernel) dX10_layLiars_19 (fun H locs hP hD hS => ?_)
  refine lv_iinc (v := 61) (lv' := [(1, .int 61), (0, .ref a0)]) hx hb dX10_layLiars_20 hl (k := 0) rfl (by decide +kernel) (by decide) rfl (fun ls hl => ?_)
  refine lv_goto (tgt := 7) hx hb dX10_layLiars_23 (by decide) ?_
  refine lv_iload_n hx hb dX10_layLiars_7 rfl (lv_at hl 0 rfl) ?_
  refine lv_bipush (v := 64) hx hb dX10_layLiars_8 (by decide) ?_
  refine lv_icmp_ge (tgt := 26) hx hb dX10_layLiars_10 (by decide) (fun c_ => absurd c_ (by decide +kernel)) (fun _ => ?_)
  refine lv_aload_n hx hb dX10_layLiars_13 rfl (lv_at hl 1 rfl) ?_
  refine k_get hC hK hP iX10 0 61 wf_X10_218 rfl (by decide) rfl rfl dX10_layLiars_14 ?_
  refine lv_iload_n hx hb dX10_layLiars_17 rfl (lv_at hl 0 rfl) ?_
  refine lv_iconst (v := 0) hx hb dX10_layLiars_18 (by decide) ?_
  refine k_zastS hC hK hP hD hS 1 61 rfl (by decide +kernel) (by decide) (by decide +kernel) dX10_layLiars_19 (fun H locs hP hD hS => ?_)
  refine lv_iinc (v := 62) (lv' := [(1, .int 62), (0, .ref a0)]) hx hb dX10_layLiars_20 hl (k := 0) rfl (by decide +kernel) (by decide) rfl (fun ls hl => ?_)
  refine lv_goto (tgt := 7) hx hb dX10_layLiars_23 (by decide) ?_
  refine lv_iload_n hx hb dX10_layLiars_7 rfl (lv_at hl 0 rfl) ?_
  refine lv_bipush (v := 64) hx hb dX10_layLiars_8 (by decide) ?_
  refine lv_icmp_ge (tgt := 26) hx hb dX10_layLiars_10 (by decide) (fun c_ => absurd c_ (by decide +kernel)) (fun _ => ?_)
  refine lv_aload_n hx hb dX10_layLiars_13 rfl (lv_at hl 1 rfl) ?_
  refine k_get hC hK hP iX10 0 61 wf_X10_218 rfl (by decide) rfl rfl dX10_layLiars_14 ?_
  refine lv_iload_n hx hb dX10_layLiars_17 rfl (lv_at hl 0 rfl) ?_
  refine lv_iconst (v := 0) hx hb dX10_layLiars_18 (by decide) ?_
  refine k_zastS hC hK hP hD hS 1 62 rfl (by decide +kernel) (by decide) (by decide +kernel) dX10_layLiars_19 (fun H locs hP hD hS => ?_)
  refine lv_iinc (v := 63) (lv' := [(1, .int 63), (0, .ref a0)]) hx hb dX10_layLiars_20 hl (k := 0) rfl (by decide +kernel) (by decide) rfl (fun ls hl => ?_)
  refine lv_goto (tgt := 7) hx hb dX10_layLiars_23 (by decide) ?_
  refine lv_iload_n hx hb dX10_layLiars_7 rfl (lv_at hl 0 rfl) ?_
  refine lv_bipush (v := 64) hx hb dX10_layLiars_8 (by decide) ?_
  refine lv_icmp_ge (tgt := 26) hx hb dX10_layLiars_10 (by decide) (fun c_ => absurd c_ (by decide +kernel)) (fun _ => ?_)
  refine lv_aload_n hx hb dX10_layLiars_13 rfl (lv_at hl 1 rfl) ?_
  refine k_get hC hK hP iX10 0 61 wf_X10_218 rfl (by decide) rfl rfl dX10_layLiars_14 ?_
  refine lv_iload_n hx hb dX10_layLiars_17 rfl (lv_at hl 0 rfl) ?_
  refine lv_iconst (v := 0) hx hb dX10_layLiars_18 (by decide) ?_
  refine k_zastS hC hK hP hD hS 1 63 rfl (by decide +kernel) (by decide) (by decide +kernel) dX10_layLiars_19 (fun H locs hP hD hS => ?_)
  refine lv_iinc (v := 64) (lv' := [(1, .int 64), (0, .ref a0)]) hx hb dX10_layLiars_20 hl (k := 0) rfl (by decide +kernel) (by decide) rfl (fun ls hl => ?_)
  refine lv_goto (tgt := 7) hx hb dX10_layLiars_23 (by decide) ?_
  refine lv_iload_n hx hb dX10_layLiars_7 rfl (lv_at hl 0 rfl) ?_
  refine lv_bipush (v := 64) hx hb dX10_layLiars_8 (by decide) ?_
  refine lv_icmp_ge (tgt := 26) hx hb dX10_layLiars_10 (by decide) (fun _ => ?_) (fun c_ => absurd (by decide +kernel) c_)
  refine lv_iconst (v := 0) hx hb dX10_layLiars_26 (by decide) ?_
  refine lv_istore_n (lv' := [(1, .int 0), (0, .ref a0)]) hx hb dX10_layLiars_27 rfl hl (by decide) rfl (fun ls hl => ?_)
  refine lv_iload_n hx hb dX10_layLiars_28 rfl (lv_at hl 0 rfl) ?_
  refine lv_aload_n hx hb dX10_layLiars_29 rfl (lv_at hl 1 rfl) ?_
  refine k_get hC hK hP iX10 0 53 wf_X10_369 rfl (by decide) rfl rfl dX10_layLiars_30 ?_
  refine lv_icmp_ge (tgt := 88) hx hb dX10_layLiars_33 (by decide) (fun c_ => absurd c_ (by decide +kernel)) (fun _ => ?_)
  refine lv_aload_n hx hb dX10_layLiars_36 rfl (lv_at hl 1 rfl) ?_
  refine lv_iload_n hx hb dX10_layLiars_37 rfl (lv_at hl 0 rfl) ?_
  refine k_cv (wr := [(a38, .inl (cZ, 64, .inl (fun _ => 0)))]) (k_rV hC hN hK hP hD (c184_X10_layFit l G cI cJ cB cZ a0 a1 a2 a3 a4 a5 a6 a7 a8 a9 a10 a11 a12 a13 a14 a15 a16 a17 a18 a19 a20 a21 a22 a23 a24 a25 a26 a27 a28 a29 a30 a31 a32 a33 a34 a35 a36 a37 a38 a39 a40 a41 a42 x0) [0, 2, 3, 4, 5, 6, 7] rfl (by decide) mi_X10_layFit in_X10_layFit se_X10_layFit wm_X10_390 10 0 rfl rfl rfl hl.1 rfl rfl (Nat.le_of_ble_eq_true rfl) ⟨(Nat.le_of_ble_eq_true rfl), (Nat.le_of_ble_eq_true rfl)⟩ dX10_layLiars_38 ⟨(Nat.le_of_ble_eq_true rfl), (Nat.le_of_ble_eq_true rfl)⟩) hP hD hS hA [0, 2, 3, 4, 5, 6, 7] [1] rfl rfl (by decide) (by decide) (fun u1 H locs hp hP hD hS => ?_)
  have hP : va_P G cl [(a38, .inl (cZ, 64, .inl (fun _ => 0))), (a0, .inr (10, [.ref a1, .ref a2, .int 0, .int 0, .int 0, .int (-1), .int 0, .int 0, .int 0, .int 0, .long 0, .ref a3, .ref a4, .ref a5, .ref a6, .ref a7, .ref a8, .ref a9, .ref a10, .ref a11, .ref a12, .ref a13, .ref a14, .ref a15, .ref a16, .ref a17, .ref a18, .ref a19, .ref a20, .ref a21, .ref a22, .ref a23, .ref a24, .ref a25, .ref a26, .ref a27, .ref a28, .ref a29, .ref a30, .ref a31, .int 0, .int 0, .ref a32, .ref a33, .int 0, .int 0, .int 0, .int 1, .ref a34, .int 0, .ref a35, .ref a36, .ref a37, .int 1, .int x0, .int 100, .int 1, .int 0, .int 0, .int 0, .int 0, .ref a38, .int (-1), .ref a39, .ref a40, .ref a41, .ref a42, .int 0, .int 0])), (a35, .inl (cI, 300000, .inl (fun _ => 0))), (a12, .inl (cI, 2, .inl (fun _ => 0))), (a10, .inl (cI, 4, .inl (upd (upd (fun _ => 0) 0 16) 1 16))), (a11, .inl (cI, 4, .inl (upd (upd (fun _ => 0) 0 16) 1 16))), (a37, .inl (cI, 2, .inl (upd (upd (fun _ => 0) 1 16) 0 16))), (a7, .inl (cI, 2, .inl (upd (fun _ => 0) 0 100)))] H := hP
  have hD : va_D A [(a38, .inl (cZ, 64, .inl (fun _ => 0))), (a0, .inr (10, [.ref a1, .ref a2, .int 0, .int 0, .int 0, .int (-1), .int 0, .int 0, .int 0, .int 0, .long 0, .ref a3, .ref a4, .ref a5, .ref a6, .ref a7, .ref a8, .ref a9, .ref a10, .ref a11, .ref a12, .ref a13, .ref a14, .ref a15, .ref a16, .ref a17, .ref a18, .ref a19, .ref a20, .ref a21, .ref a22, .ref a23, .ref a24, .ref a25, .ref a26, .ref a27, .ref a28, .ref a29, .ref a30, .ref a31, .int 0, .int 0, .ref a32, .ref a33, .int 0, .int 0, .int 0, .int 1, .ref a34, .int 0, .ref a35, .ref a36, .ref a37, .int 1, .int x0, .int 100, .int 1, .int 0, .int 0, .int 0, .int 0, .ref a38, .int (-1), .ref a39, .ref a40, .ref a41, .ref a42, .int 0, .int 0])), (a35, .inl (cI, 300000, .inl (fun _ => 0))), (a12, .inl (cI, 2, .inl (fun _ => 0))), (a10, .inl (cI, 4, .inl (upd (upd (fun _ => 0) 0 16) 1 16))), (a11, .inl (cI, 4, .inl (upd (upd (fun _ => 0) 0 16) 1 16))), (a37, .inl (cI, 2, .inl (upd (upd (fun _ => 0) 1 16) 0 16))), (a7, .inl (cI, 2, .inl (upd (fun _ => 0) 0 100)))] := hD
  refine lv_aload_n hx hb dX10_layLiars_41 rfl (lv_at hl 1 rfl) ?_
  refine k_ci (wr := [(a38, .inl (cZ, 64, .inl (fun _ => 0))), (a35, .inl (cI, 300000, .inl (fun _ => 0))), (a10, .inl (cI, 4, .inl (upd (upd (fun _ => 0) 0 16) 1 16))), (a11, .inl (cI, 4, .inl (upd (upd (fun _ => 0) 0 16) 1 16))), (a37, .inl (cI, 2, .inl (upd (upd (fun _ => 0) 1 16) 0 16))), (a7, .inl (cI, 2, .inl (upd (fun _ => 0) 0 100)))]) (k_rV hC hN hK hP hD (c185_X10_liars l G cI cJ cB cZ a0 a1 a2 a3 a4 a5 a6 a7 a8 a9 a10 a11 a12 a13 a14 a15 a16 a17 a18 a19 a20 a21 a22 a23 a24 a25 a26 a27 a28 a29 a30 a31 a32 a33 a34 a35 a36 a37 a38 a39 a40 a41 a42 x0) [1, 3] rfl (by decide) mi_X10_liars in_X10_liars se_X10_liars wm_X10_418 10 1 rfl rfl rfl hl.1 rfl rfl (Nat.le_of_ble_eq_true rfl) ⟨(Nat.le_of_ble_eq_true rfl), (Nat.le_of_ble_eq_true rfl)⟩ dX10_layLiars_42 ⟨(Nat.le_of_ble_eq_true rfl), (Nat.le_of_ble_eq_true rfl)⟩) hP hD hS hA [1, 3] [0, 2, 4, 5, 6, 7] rfl rfl (by decide) (by decide) (fun r2 u2 H locs hp hP hD hS => ?_)
  have hP : va_P G cl [(a38, .inl (cZ, 64, .inl (fun _ => 0))), (a35, .inl (cI, 300000, .inl (fun _ => 0))), (a10, .inl (cI, 4, .inl (upd (upd (fun _ => 0) 0 16) 1 16))), (a11, .inl (cI, 4, .inl (upd (upd (fun _ => 0) 0 16) 1 16))), (a37, .inl (cI, 2, .inl (upd (upd (fun _ => 0) 1 16) 0 16))), (a7, .inl (cI, 2, .inl (upd (fun _ => 0) 0 100))), (a0, .inr (10, [.ref a1, .ref a2, .int 0, .int 0, .int 0, .int (-1), .int 0, .int 0, .int 0, .int 0, .long 0, .ref a3, .ref a4, .ref a5, .ref a6, .ref a7, .ref a8, .ref a9, .ref a10, .ref a11, .ref a12, .ref a13, .ref a14, .ref a15, .ref a16, .ref a17, .ref a18, .ref a19, .ref a20, .ref a21, .ref a22, .ref a23, .ref a24, .ref a25, .ref a26, .ref a27, .ref a28, .ref a29, .ref a30, .ref a31, .int 0, .int 0, .ref a32, .ref a33, .int 0, .int 0, .int 0, .int 1, .ref a34, .int 0, .ref a35, .ref a36, .ref a37, .int 1, .int x0, .int 100, .int 1, .int 0, .int 0, .int 0, .int 0, .ref a38, .int (-1), .ref a39, .ref a40, .ref a41, .ref a42, .int 0, .int 0])), (a12, .inl (cI, 2, .inl (fun _ => 0)))] H := hP
  have hD : va_D A [(a38, .inl (cZ, 64, .inl (fun _ => 0))), (a35, .inl (cI, 300000, .inl (fun _ => 0))), (a10, .inl (cI, 4, .inl (upd (upd (fun _ => 0) 0 16) 1 16))), (a11, .inl (cI, 4, .inl (upd (upd (fun _ => 0) 0 16) 1 16))), (a37, .inl (cI, 2, .inl (upd (upd (fun _ => 0) 1 16) 0 16))), (a7, .inl (cI, 2, .inl (upd (fun _ => 0) 0 100))), (a0, .inr (10, [.ref a1, .ref a2, .int 0, .int 0, .int 0, .int (-1), .int 0, .int 0, .int 0, .int 0, .long 0, .ref a3, .ref a4, .ref a5, .ref a6, .ref a7, .ref a8, .ref a9, .ref a10, .ref a11, .ref a12, .ref a13, .ref a14, .ref a15, .ref a16, .ref a17, .ref a18, .ref a19, .ref a20, .ref a21, .ref a22, .ref a23, .ref a24, .ref a25, .ref a26, .ref a27, .ref a28, .ref a29, .ref a30, .ref a31, .int 0, .int 0, .ref a32, .ref a33, .int 0, .int 0, .int 0, .int 1, .ref a34, .int 0, .ref a35, .ref a36, .ref a37, .int 1, .int x0, .int 100, .int 1, .int 0, .int 0, .int 0, .int 0, .ref a38, .int (-1), .ref a39, .ref a40, .ref a41, .ref a42, .int 0, .int 0])), (a12, .inl (cI, 2, .inl (fun _ => 0)))] := hD
  subst hp
  refine lv_istore_n (lv' := [(2, .int 0), (1, .int 0), (0, .ref a0)]) hx hb dX10_layLiars_45 rfl hl (by decide) rfl (fun ls hl => ?_)
  refine lv_aload_n hx hb dX10_layLiars_46 rfl (lv_at hl 2 rfl) ?_
  refine k_get hC hK hP iX10 6 61 wf_X10_218 rfl (by decide) rfl rfl dX10_layLiars_47 ?_
  refine lv_iload_n hx hb dX10_layLiars_50 rfl (lv_at hl 0 rfl) ?_
  refine lv_iconst (v := 1) hx hb dX10_layLiars_51 (by decide) ?_
  refine k_zast hC hK hP hD hS 0 0 1 rfl (by decide +kernel) (by decide) (by decide +kernel) dX10_layLiars_52 (fun H locs hP hD hS => ?_)
  have hP : va_P G cl [(a38, .inl (cZ, 64, .inl (upd (fun _ => 0) 0 1))), (a35, .inl (cI, 300000, .inl (fun _ => 0))), (a10, .inl (cI, 4, .inl (upd (upd (fun _ => 0) 0 16) 1 16))), (a11, .inl (cI, 4, .inl (upd (upd (fun _ => 0) 0 16) 1 16))), (a37, .inl (cI, 2, .inl (upd (upd (fun _ => 0) 1 16) 0 16))), (a7, .inl (cI, 2, .inl (upd (fun _ => 0) 0 100))), (a0, .inr (10, [.ref a1, .ref a2, .int 0, .int 0, .int 0, .int (-1), .int 0, .int 0, .int 0, .int 0, .long 0, .ref a3, .ref a4, .ref a5, .ref a6, .ref a7, .ref a8, .ref a9, .ref a10, .ref a11, .ref a12, .ref a13, .ref a14, .ref a15, .ref a16, .ref a17, .ref a18, .ref a19, .ref a20, .ref a21, .ref a22, .ref a23, .ref a24, .ref a25, .ref a26, .ref a27, .ref a28, .ref a29, .ref a30, .ref a31, .int 0, .int 0, .ref a32, .ref a33, .int 0, .int 0, .int 0, .int 1, .ref a34, .int 0, .ref a35, .ref a36, .ref a37, .int 1, .int x0, .int 100, .int 1, .int 0, .int 0, .int 0, .int 0, .ref a38, .int (-1), .ref a39, .ref a40, .ref a41, .ref a42, .int 0, .int 0])), (a12, .inl (cI, 2, .inl (fun _ => 0)))] H := hP
  have hD : va_D A [(a38, .inl (cZ, 64, .inl (upd (fun _ => 0) 0 1))), (a35, .inl (cI, 300000, .inl (fun _ => 0))), (a10, .inl (cI, 4, .inl (upd (upd (fun _ => 0) 0 16) 1 16))), (a11, .inl (cI, 4, .inl (upd (upd (fun _ => 0) 0 16) 1 16))), (a37, .inl (cI, 2, .inl (upd (upd (fun _ => 0) 1 16) 0 16))), (a7, .inl (cI, 2, .inl (upd (fun _ => 0) 0 100))), (a0, .inr (10, [.ref a1, .ref a2, .int 0, .int 0, .int 0, .int (-1), .int 0, .int 0, .int 0, .int 0, .long 0, .ref a3, .ref a4, .ref a5, .ref a6, .ref a7, .ref a8, .ref a9, .ref a10, .ref a11, .ref a12, .ref a13, .ref a14, .ref a15, .ref a16, .ref a17, .ref a18, .ref a19, .ref a20, .ref a21, .ref a22, .ref a23, .ref a24, .ref a25, .ref a26, .ref a27, .ref a28, .ref a29, .ref a30, .ref a31, .int 0, .int 0, .ref a32, .ref a33, .int 0, .int 0, .int 0, .int 1, .ref a34, .int 0, .ref a35, .ref a36, .ref a37, .int 1, .int x0, .int 100, .int 1, .int 0, .int 0, .int 0, .int 0, .ref a38, .int (-1), .ref a39, .ref a40, .ref a41, .ref a42, .int 0, .int 0])), (a12, .inl (cI, 2, .inl (fun _ => 0)))] := hD
  refine lv_aload_n hx hb dX10_layLiars_53 rfl (lv_at hl 2 rfl) ?_
  refine lv_aload_n hx hb dX10_layLiars_54 rfl (lv_at hl 2 rfl) ?_
  refine k_get hC hK hP iX10 6 62 wf_X10_421 rfl (by decide) rfl rfl dX10_layLiars_55 ?_
  refine lv_if_ge (tgt := 68) hx hb dX10_layLiars_58 (by decide) (fun c_ => absurd c_ (by decide +kernel)) (fun _ => ?_)
  refine lv_iload_n hx hb dX10_layLiars_61 rfl (lv_at hl 0 rfl) ?_
  refine k_ci (wr := [(a38, .inl (cZ, 64, .inl (upd (fun _ => 0) 0 1))), (a35, .inl (cI, 300000, .inl (fun _ => 0))), (a10, .inl (cI, 4, .inl (upd (upd (fun _ => 0) 0 16) 1 16))), (a11, .inl (cI, 4, .inl (upd (upd (fun _ => 0) 0 16) 1 16))), (a37, .inl (cI, 2, .inl (upd (upd (fun _ => 0) 1 16) 0 16))), (a7, .inl (cI, 2, .inl (upd (fun _ => 0) 0 100))), (a0, .inr (10, [.ref a1, .ref a2, .int 0, .int 0, .int 0, .int (-1), .int 0, .int 0, .int 0, .int 0, .long 0, .ref a3, .ref a4, .ref a5, .ref a6, .ref a7, .ref a8, .ref a9, .ref a10, .ref a11, .ref a12, .ref a13, .ref a14, .ref a15, .ref a16, .ref a17, .ref a18, .ref a19, .ref a20, .ref a21, .ref a22, .ref a23, .ref a24, .ref a25, .ref a26, .ref a27, .ref a28, .ref a29, .ref a30, .ref a31, .int 0, .int 0, .ref a32, .ref a33, .int 0, .int 0, .int 0, .int 1, .ref a34, .int 0, .ref a35, .ref a36, .ref a37, .int 1, .int x0, .int 100, .int 1, .int 0, .int 0, .int 0, .int 0, .ref a38, .int (-1), .ref a39, .ref a40, .ref a41, .ref a42, .int 0, .int 0])), (a12, .inl (cI, 2, .inl (fun _ => 0)))]) (k_rS hC hN hK hP hD (c186_X10_bitsOf l G cI cJ cB cZ) [] rfl (by decide) mi_X10_bitsOf st_X10_bitsOf wm_X10_424 hl.1 rfl rfl (Nat.le_of_ble_eq_true rfl) ⟨(Nat.le_of_ble_eq_true rfl), (Nat.le_of_ble_eq_true rfl)⟩ dX10_layLiars_62 ⟨(Nat.le_of_ble_eq_true rfl), (Nat.le_of_ble_eq_true rfl)⟩) hP hD hS hA [] [0, 1, 2, 3, 4, 5, 6, 7] rfl rfl (by decide) (by decide) (fun r3 u3 H locs hp hP hD hS => ?_)
  have hP : va_P G cl [(a38, .inl (cZ, 64, .inl (upd (fun _ => 0) 0 1))), (a35, .inl (cI, 300000, .inl (fun _ => 0))), (a10, .inl (cI, 4, .inl (upd (upd (fun _ => 0) 0 16) 1 16))), (a11, .inl (cI, 4, .inl (upd (upd (fun _ => 0) 0 16) 1 16))), (a37, .inl (cI, 2, .inl (upd (upd (fun _ => 0) 1 16) 0 16))), (a7, .inl (cI, 2, .inl (upd (fun _ => 0) 0 100))), (a0, .inr (10, [.ref a1, .ref a2, .int 0, .int 0, .int 0, .int (-1), .int 0, .int 0, .int 0, .int 0, .long 0, .ref a3, .ref a4, .ref a5, .ref a6, .ref a7, .ref a8, .ref a9, .ref a10, .ref a11, .ref a12, .ref a13, .ref a14, .ref a15, .ref a16, .ref a17, .ref a18, .ref a19, .ref a20, .ref a21, .ref a22, .ref a23, .ref a24, .ref a25, .ref a26, .ref a27, .ref a28, .ref a29, .ref a30, .ref a31, .int 0, .int 0, .ref a32, .ref a33, .int 0, .int 0, .int 0, .int 1, .ref a34, .int 0, .ref a35, .ref a36, .ref a37, .int 1, .int x0, .int 100, .int 1, .int 0, .int 0, .int 0, .int 0, .ref a38, .int (-1), .ref a39, .ref a40, .ref a41, .ref a42, .int 0, .int 0])), (a12, .inl (cI, 2, .inl (fun _ => 0)))] H := hP
  have hD : va_D A [(a38, .inl (cZ, 64, .inl (upd (fun _ => 0) 0 1))), (a35, .inl (cI, 300000, .inl (fun _ => 0))), (a10, .inl (cI, 4, .inl (upd (upd (fun _ => 0) 0 16) 1 16))), (a11, .inl (cI, 4, .inl (upd (upd (fun _ => 0) 0 16) 1 16))), (a37, .inl (cI, 2, .inl (upd (upd (fun _ => 0) 1 16) 0 16))), (a7, .inl (cI, 2, .inl (upd (fun _ => 0) 0 100))), (a0, .inr (10, [.ref a1, .ref a2, .int 0, .int 0, .int 0, .int (-1), .int 0, .int 0, .int 0, .int 0, .long 0, .ref a3, .ref a4, .ref a5, .ref a6, .ref a7, .ref a8, .ref a9, .ref a10, .ref a11, .ref a12, .ref a13, .ref a14, .ref a15, .ref a16, .ref a17, .ref a18, .ref a19, .ref a20, .ref a21, .ref a22, .ref a23, .ref a24, .ref a25, .ref a26, .ref a27, .ref a28, .ref a29, .ref a30, .ref a31, .int 0, .int 0, .ref a32, .ref a33, .int 0, .int 0, .int 0, .int 1, .ref a34, .int 0, .ref a35, .ref a36, .ref a37, .int 1, .int x0, .int 100, .int 1, .int 0, .int 0, .int 0, .int 0, .ref a38, .int (-1), .ref a39, .ref a40, .ref a41, .ref a42, .int 0, .int 0])), (a12, .inl (cI, 2, .inl (fun _ => 0)))] := hD
  subst hp
  refine lv_goto (tgt := 79) hx hb dX10_layLiars_65 (by decide) ?_
  refine k_put hC hK hP hD hS iX10 tyX10_ok nmX10 6 62 wf_X10_421 rfl (by decide) rfl rfl rfl rfl (Nat.le_of_ble_eq_true rfl) dX10_layLiars_79 (fun H locs hP hD hS => ?_)
  have hP : va_P G cl [(a38, .inl (cZ, 64, .inl (upd (fun _ => 0) 0 1))), (a35, .inl (cI, 300000, .inl (fun _ => 0))), (a10, .inl (cI, 4, .inl (upd (upd (fun _ => 0) 0 16) 1 16))), (a11, .inl (cI, 4, .inl (upd (upd (fun _ => 0) 0 16) 1 16))), (a37, .inl (cI, 2, .inl (upd (upd (fun _ => 0) 1 16) 0 16))), (a7, .inl (cI, 2, .inl (upd (fun _ => 0) 0 100))), (a0, .inr (10, [.ref a1, .ref a2, .int 0, .int 0, .int 0, .int (-1), .int 0, .int 0, .int 0, .int 0, .long 0, .ref a3, .ref a4, .ref a5, .ref a6, .ref a7, .ref a8, .ref a9, .ref a10, .ref a11, .ref a12, .ref a13, .ref a14, .ref a15, .ref a16, .ref a17, .ref a18, .ref a19, .ref a20, .ref a21, .ref a22, .ref a23, .ref a24, .ref a25, .ref a26, .ref a27, .ref a28, .ref a29, .ref a30, .ref a31, .int 0, .int 0, .ref a32, .ref a33, .int 0, .int 0, .int 0, .int 1, .ref a34, .int 0, .ref a35, .ref a36, .ref a37, .int 1, .int x0, .int 100, .int 1, .int 0, .int 0, .int 0, .int 0, .ref a38, .int 0, .ref a39, .ref a40, .ref a41, .ref a42, .int 0, .int 0])), (a12, .inl (cI, 2, .inl (fun _ => 0)))] H := hP
  have hD : va_D A [(a38, .inl (cZ, 64, .inl (upd (fun _ => 0) 0 1))), (a35, .inl (cI, 300000, .inl (fun _ => 0))), (a10, .inl (cI, 4, .inl (upd (upd (fun _ => 0) 0 16) 1 16))), (a11, .inl (cI, 4, .inl (upd (upd (fun _ => 0) 0 16) 1 16))), (a37, .inl (cI, 2, .inl (upd (upd (fun _ => 0) 1 16) 0 16))), (a7, .inl (cI, 2, .inl (upd (fun _ => 0) 0 100))), (a0, .inr (10, [.ref a1, .ref a2, .int 0, .int 0, .int 0, .int (-1), .int 0, .int 0, .int 0, .int 0, .long 0, .ref a3, .ref a4, .ref a5, .ref a6, .ref a7, .ref a8, .ref a9, .ref a10, .ref a11, .ref a12, .ref a13, .ref a14, .ref a15, .ref a16, .ref a17, .ref a18, .ref a19, .ref a20, .ref a21, .ref a22, .ref a23, .ref a24, .ref a25, .ref a26, .ref a27, .ref a28, .ref a29, .ref a30, .ref a31, .int 0, .int 0, .ref a32, .ref a33, .int 0, .int 0, .int 0, .int 1, .ref a34, .int 0, .ref a35, .ref a36, .ref a37, .int 1, .int x0, .int 100, .int 1, .int 0, .int 0, .int 0, .int 0, .ref a38, .int 0, .ref a39, .ref a40, .ref a41, .ref a42, .int 0, .int 0])), (a12, .inl (cI, 2, .inl (fun _ => 0)))] := hD
  refine lv_iinc (v := 1) (lv' := [(1, .int 1), (2, .int 0), (0, .ref a0)]) hx hb dX10_layLiars_82 hl (k := 1) rfl (by decide +kernel) (by decide) rfl (fun ls hl => ?_)
  refine lv_goto (tgt := 28) hx hb dX10_layLiars_85 (by decide) ?_
  refine lv_iload_n hx hb dX10_layLiars_28 rfl (lv_at hl 0 rfl) ?_
  refine lv_aload_n hx hb dX10_layLiars_29 rfl (lv_at hl 2 rfl) ?_
  refine k_get hC hK hP iX10 6 53 wf_X10_369 rfl (by decide) rfl rfl dX10_layLiars_30 ?_
  refine lv_icmp_ge (tgt := 88) hx hb dX10_layLiars_33 (by decide) (fun _ => ?_) (fun c_ => absurd (by decide +kernel) c_)
  refine lv_iconst (v := 0) hx hb dX10_layLiars_88 (by decide) ?_
  refine lv_istore_n (lv' := [(1, .int 0), (2, .int 0), (0, .ref a0)]) hx hb dX10_layLiars_89 rfl hl (by decide) rfl (fun ls hl => ?_)
  refine lv_iload_n hx hb dX10_layLiars_90 rfl (lv_at hl 0 rfl) ?_
  refine lv_bipush (v := 64) hx hb dX10_layLiars_91 (by decide) ?_
  refine lv_icmp_ge (tgt := 133) hx hb dX10_layLiars_93 (by decide) (fun c_ => absurd c_ (by decide +kernel)) (fun _ => ?_)
  refine lv_aload_n hx hb dX10_layLiars_96 rfl (lv_at hl 2 rfl) ?_
  refine k_get hC hK hP iX10 6 61 wf_X10_218 rfl (by decide) rfl rfl dX10_layLiars_97 ?_
  refine lv_iload_n hx hb dX10_layLiars_100 rfl (lv_at hl 0 rfl) ?_
  refine lv_aload_n hx hb dX10_layLiars_101 rfl (lv_at hl 2 rfl) ?_
  refine k_get hC hK hP iX10 6 61 wf_X10_218 rfl (by decide) rfl rfl dX10_layLiars_102 ?_
  refine lv_iload_n hx hb dX10_layLiars_105 rfl (lv_at hl 0 rfl) ?_
  refine k_zald (v := 1) hC hK hP 0 0 rfl (by decide +kernel) (by decide) (by decide +kernel) dX10_layLiars_106 ?_
  refine lv_if_eq (tgt := 125) hx hb dX10_layLiars_107 (by decide) (fun c_ => absurd c_ (by decide +kernel)) (fun _ => ?_)
  refine lv_iload_n hx hb dX10_layLiars_110 rfl (lv_at hl 0 rfl) ?_
  refine k_ci (wr := [(a38, .inl (cZ, 64, .inl (upd (fun _ => 0) 0 1))), (a35, .inl (cI, 300000, .inl (fun _ => 0))), (a10, .inl (cI, 4, .inl (upd (upd (fun _ => 0) 0 16) 1 16))), (a11, .inl (cI, 4, .inl (upd (upd (fun _ => 0) 0 16) 1 16))), (a37, .inl (cI, 2, .inl (upd (upd (fun _ => 0) 1 16) 0 16))), (a7, .inl (cI, 2, .inl (upd (fun _ => 0) 0 100))), (a0, .inr (10, [.ref a1, .ref a2, .int 0, .int 0, .int 0, .int (-1), .int 0, .int 0, .int 0, .int 0, .long 0, .ref a3, .ref a4, .ref a5, .ref a6, .ref a7, .ref a8, .ref a9, .ref a10, .ref a11, .ref a12, .ref a13, .ref a14, .ref a15, .ref a16, .ref a17, .ref a18, .ref a19, .ref a20, .ref a21, .ref a22, .ref a23, .ref a24, .ref a25, .ref a26, .ref a27, .ref a28, .ref a29, .ref a30, .ref a31, .int 0, .int 0, .ref a32, .ref a33, .int 0, .int 0, .int 0, .int 1, .ref a34, .int 0, .ref a35, .ref a36, .ref a37, .int 1, .int x0, .int 100, .int 1, .int 0, .int 0, .int 0, .int 0, .ref a38, .int 0, .ref a39, .ref a40, .ref a41, .ref a42, .int 0, .int 0])), (a12, .inl (cI, 2, .inl (fun _ => 0)))]) (k_rS hC hN hK hP hD (c186_X10_bitsOf l G cI cJ cB cZ) [] rfl (by decide) mi_X10_bitsOf st_X10_bitsOf wm_X10_424 hl.1 rfl rfl (Nat.le_of_ble_eq_true rfl) ⟨(Nat.le_of_ble_eq_true rfl), (Nat.le_of_ble_eq_true rfl)⟩ dX10_layLiars_111 ⟨(Nat.le_of_ble_eq_true rfl), (Nat.le_of_ble_eq_true rfl)⟩) hP hD hS hA [] [0, 1, 2, 3, 4, 5, 6, 7] rfl rfl (by decide) (by decide) (fun r4 u4 H locs hp hP hD hS => ?_)
  have hP : va_P G cl [(a38, .inl (cZ, 64, .inl (upd (fun _ => 0) 0 1))), (a35, .inl (cI, 300000, .inl (fun _ => 0))), (a10, .inl (cI, 4, .inl (upd (upd (fun _ => 0) 0 16) 1 16))), (a11, .inl (cI, 4, .inl (upd (upd (fun _ => 0) 0 16) 1 16))), (a37, .inl (cI, 2, .inl (upd (upd (fun _ => 0) 1 16) 0 16))), (a7, .inl (cI, 2, .inl (upd (fun _ => 0) 0 100))), (a0, .inr (10, [.ref a1, .ref a2, .int 0, .int 0, .int 0, .int (-1), .int 0, .int 0, .int 0, .int 0, .long 0, .ref a3, .ref a4, .ref a5, .ref a6, .ref a7, .ref a8, .ref a9, .ref a10, .ref a11, .ref a12, .ref a13, .ref a14, .ref a15, .ref a16, .ref a17, .ref a18, .ref a19, .ref a20, .ref a21, .ref a22, .ref a23, .ref a24, .ref a25, .ref a26, .ref a27, .ref a28, .ref a29, .ref a30, .ref a31, .int 0, .int 0, .ref a32, .ref a33, .int 0, .int 0, .int 0, .int 1, .ref a34, .int 0, .ref a35, .ref a36, .ref a37, .int 1, .int x0, .int 100, .int 1, .int 0, .int 0, .int 0, .int 0, .ref a38, .int 0, .ref a39, .ref a40, .ref a41, .ref a42, .int 0, .int 0])), (a12, .inl (cI, 2, .inl (fun _ => 0)))] H := hP
  have hD : va_D A [(a38, .inl (cZ, 64, .inl (upd (fun _ => 0) 0 1))), (a35, .inl (cI, 300000, .inl (fun _ => 0))), (a10, .inl (cI, 4, .inl (upd (upd (fun _ => 0) 0 16) 1 16))), (a11, .inl (cI, 4, .inl (upd (upd (fun _ => 0) 0 16) 1 16))), (a37, .inl (cI, 2, .inl (upd (upd (fun _ => 0) 1 16) 0 16))), (a7, .inl (cI, 2, .inl (upd (fun _ => 0) 0 100))), (a0, .inr (10, [.ref a1, .ref a2, .int 0, .int 0, .int 0, .int (-1), .int 0, .int 0, .int 0, .int 0, .long 0, .ref a3, .ref a4, .ref a5, .ref a6, .ref a7, .ref a8, .ref a9, .ref a10, .ref a11, .ref a12, .ref a13, .ref a14, .ref a15, .ref a16, .ref a17, .ref a18, .ref a19, .ref a20, .ref a21, .ref a22, .ref a23, .ref a24, .ref a25, .ref a26, .ref a27, .ref a28, .ref a29, .ref a30, .ref a31, .int 0, .int 0, .ref a32, .ref a33, .int 0, .int 0, .int 0, .int 1, .ref a34, .int 0, .ref a35, .ref a36, .ref a37, .int 1, .int x0, .int 100, .int 1, .int 0, .int 0, .int 0, .int 0, .ref a38, .int 0, .ref a39, .ref a40, .ref a41, .ref a42, .int 0, .int 0])), (a12, .inl (cI, 2, .inl (fun _ => 0)))] := hD
  subst hp
  refine lv_aload_n hx hb dX10_layLiars_114 rfl (lv_at hl 2 rfl) ?_
  refine k_get hC hK hP iX10 6 62 wf_X10_421 rfl (by decide) rfl rfl dX10_layLiars_115 ?_
  refine lv_icmp_ne (tgt := 125) hx hb dX10_layLiars_118 (by decide) (fun c_ => absurd (by decide +kernel) c_) (fun _ => ?_)
  refine lv_iconst (v := 1) hx hb dX10_layLiars_121 (by decide) ?_
  refine lv_goto (tgt := 126) hx hb dX10_layLiars_122 (by decide) ?_
  refine k_zastS hC hK hP hD hS 0 0 rfl (by decide +kernel) (by decide) (by decide +kernel) dX10_layLiars_126 (fun H locs hP hD hS => ?_)
  refine lv_iinc (v := 1) (lv' := [(1, .int 1), (2, .int 0), (0, .ref a0)]) hx hb dX10_layLiars_127 hl (k := 0) rfl (by decide +kernel) (by decide) rfl (fun ls hl => ?_)
  refine lv_goto (tgt := 90) hx hb dX10_layLiars_130 (by decide) ?_
  refine lv_iload_n hx hb dX10_layLiars_90 rfl (lv_at hl 0 rfl) ?_
  refine lv_bipush (v := 64) hx hb dX10_layLiars_91 (by decide) ?_
  refine lv_icmp_ge (tgt := 133) hx hb dX10_layLiars_93 (by decide) (fun c_ => absurd c_ (by decide +kernel)) (fun _ => ?_)
  refine lv_aload_n hx hb dX10_layLiars_96 rfl (lv_at hl 2 rfl) ?_
  refine k_get hC hK hP iX10 6 61 wf_X10_218 rfl (by decide) rfl rfl dX10_layLiars_97 ?_
  refine lv_iload_n hx hb dX10_layLiars_100 rfl (lv_at hl 0 rfl) ?_
  refine lv_aload_n hx hb dX10_layLiars_101 rfl (lv_at hl 2 rfl) ?_
  refine k_get hC hK hP iX10 6 61 wf_X10_218 rfl (by decide) rfl rfl dX10_layLiars_102 ?_
  refine lv_iload_n hx hb dX10_layLiars_105 rfl (lv_at hl 0 rfl) ?_
  refine k_zald (v := 0) hC hK hP 0 1 rfl (by decide +kernel) (by decide) (by decide +kernel) dX10_layLiars_106 ?_
  refine lv_if_eq (tgt := 125) hx hb dX10_layLiars_107 (by decide) (fun _ => ?_) (fun c_ => absurd (by decide +kernel) c_)
  refine lv_iconst (v := 0) hx hb dX10_layLiars_125 (by decide) ?_
  refine k_zastS hC hK hP hD hS 0 1 rfl (by decide +kernel) (by decide) (by decide +kernel) dX10_layLiars_126 (fun H locs hP hD hS => ?_)
  refine lv_iinc (v := 2) (lv' := [(1, .int 2), (2, .int 0), (0, .ref a0)]) hx hb dX10_layLiars_127 hl (k := 0) rfl (by decide +kernel) (by decide) rfl (fun ls hl => ?_)
  refine lv_goto (tgt := 90) hx hb dX10_layLiars_130 (by decide) ?_
  refine lv_iload_n hx hb dX10_layLiars_90 rfl (lv_at hl 0 rfl) ?_
  refine lv_bipush (v := 64) hx hb dX10_layLiars_91 (by decide) ?_
  refine lv_icmp_ge (tgt := 133) hx hb dX10_layLiars_93 (by decide) (fun c_ => absurd c_ (by decide +kernel)) (fun _ => ?_)
  refine lv_aload_n hx hb dX10_layLiars_96 rfl (lv_at hl 2 rfl) ?_
  refine k_get hC hK hP iX10 6 61 wf_X10_218 rfl (by decide) rfl rfl dX10_layLiars_97 ?_
  refine lv_iload_n hx hb dX10_layLiars_100 rfl (lv_at hl 0 rfl) ?_
  refine lv_aload_n hx hb dX10_layLiars_101 rfl (lv_at hl 2 rfl) ?_
  refine k_get hC hK hP iX10 6 61 wf_X10_218 rfl (by decide) rfl rfl dX10_layLiars_102 ?_
  refine lv_iload_n hx hb dX10_layLiars_105 rfl (lv_at hl 0 rfl) ?_
  refine k_zald (v := 0) hC hK hP 0 2 rfl (by decide +kernel) (by decide) (by decide +kernel) dX10_layLiars_106 ?_
  refine lv_if_eq (tgt := 125) hx hb dX10_layLiars_107 (by decide) (fun _ => ?_) (fun c_ => absurd (by decide +kernel) c_)
  refine lv_iconst (v := 0) hx hb dX10_layLiars_125 (by decide) ?_
  refine k_zastS hC hK hP hD hS 0 2 rfl (by decide +kernel) (by decide) (by decide +kernel) dX10_layLiars_126 (fun H locs hP hD hS => ?_)
  refine lv_iinc (v := 3) (lv' := [(1, .int 3), (2, .int 0), (0, .ref a0)]) hx hb dX10_layLiars_127 hl (k := 0) rfl (by decide +kernel) (by decide) rfl (fun ls hl => ?_)
  refine lv_goto (tgt := 90) hx hb dX10_layLiars_130 (by decide) ?_
  refine lv_iload_n hx hb dX10_layLiars_90 rfl (lv_at hl 0 rfl) ?_
  refine lv_bipush (v := 64) hx hb dX10_layLiars_91 (by decide) ?_
  refine lv_icmp_ge (tgt := 133) hx hb dX10_layLiars_93 (by decide) (fun c_ => absurd c_ (by decide +kernel)) (fun _ => ?_)
  refine lv_aload_n hx hb dX10_layLiars_96 rfl (lv_at hl 2 rfl) ?_
  refine k_get hC hK hP iX10 6 61 wf_X10_218 rfl (by decide) rfl rfl dX10_layLiars_97 ?_
  refine lv_iload_n hx hb dX10_layLiars_100 rfl (lv_at hl 0 rfl) ?_
  refine lv_aload_n hx hb dX10_layLiars_101 rfl (lv_at hl 2 rfl) ?_
  refine k_get hC hK hP iX10 6 61 wf_X10_218 rfl (by decide) rfl rfl dX10_layLiars_102 ?_
  refine lv_iload_n hx hb dX10_layLiars_105 rfl (lv_at hl 0 rfl) ?_
  refine k_zald (v := 0) hC hK hP 0 3 rfl (by decide +kernel) (by decide) (by decide +kernel) dX10_layLiars_106 ?_
  refine lv_if_eq (tgt := 125) hx hb dX10_layLiars_107 (by decide) (fun _ => ?_) (fun c_ => absurd (by decide +kernel) c_)
  refine lv_iconst (v := 0) hx hb dX10_layLiars_125 (by decide) ?_
  refine k_zastS hC hK hP hD hS 0 3 rfl (by decide +kernel) (by decide) (by decide +kernel) dX10_layLiars_126 (fun H locs hP hD hS => ?_)
  refine lv_iinc (v := 4) (lv' := [(1, .int 4), (2, .int 0), (0, .ref a0)]) hx hb dX10_layLiars_127 hl (k := 0) rfl (by decide +kernel) (by decide) rfl (fun ls hl => ?_)
  refine lv_goto (tgt := 90) hx hb dX10_layLiars_130 (by decide) ?_
  refine lv_iload_n hx hb dX10_layLiars_90 rfl (lv_at hl 0 rfl) ?_
  refine lv_bipush (v := 64) hx hb dX10_layLiars_91 (by decide) ?_
  refine lv_icmp_ge (tgt := 133) hx hb dX10_layLiars_93 (by decide) (fun c_ => absurd c_ (by decide +kernel)) (fun _ => ?_)
  refine lv_aload_n hx hb dX10_layLiars_96 rfl (lv_at hl 2 rfl) ?_
  refine k_get hC hK hP iX10 6 61 wf_X10_218 rfl (by decide) rfl rfl dX10_layLiars_97 ?_
  refine lv_iload_n hx hb dX10_layLiars_100 rfl (lv_at hl 0 rfl) ?_
  refine lv_aload_n hx hb dX10_layLiars_101 rfl (lv_at hl 2 rfl) ?_
  refine k_get hC hK hP iX10 6 61 wf_X10_218 rfl (by decide) rfl rfl dX10_layLiars_102 ?_
  refine lv_iload_n hx hb dX10_layLiars_105 rfl (lv_at hl 0 rfl) ?_
  refine k_zald (v := 0) hC hK hP 0 4 rfl (by decide +kernel) (by decide) (by decide +kernel) dX10_layLiars_106 ?_
  refine lv_if_eq (tgt := 125) hx hb dX10_layLiars_107 (by decide) (fun _ => ?_) (fun c_ => absurd (by decide +kernel) c_)
  refine lv_iconst (v := 0) hx hb dX10_layLiars_125 (by decide) ?_
  refine k_zastS hC hK hP hD hS 0 4 rfl (by decide +kernel) (by decide) (by decide +kernel) dX10_layLiars_126 (fun H locs hP hD hS => ?_)
  refine lv_iinc (v := 5) (lv' := [(1, .int 5), (2, .int 0), (0, .ref a0)]) hx hb dX10_layLiars_127 hl (k := 0) rfl (by decide +kernel) (by decide) rfl (fun ls hl => ?_)
  refine lv_goto (tgt := 90) hx hb dX10_layLiars_130 (by decide) ?_
  refine lv_iload_n hx hb dX10_layLiars_90 rfl (lv_at hl 0 rfl) ?_
  refine lv_bipush (v := 64) hx hb dX10_layLiars_91 (by decide) ?_
  refine lv_icmp_ge (tgt := 133) hx hb dX10_layLiars_93 (by decide) (fun c_ => absurd c_ (by decide +kernel)) (fun _ => ?_)
  refine lv_aload_n hx hb dX10_layLiars_96 rfl (lv_at hl 2 rfl) ?_
  refine k_get hC hK hP iX10 6 61 wf_X10_218 rfl (by decide) rfl rfl dX10_layLiars_97 ?_
  refine lv_iload_n hx hb dX10_layLiars_100 rfl (lv_at hl 0 rfl) ?_
  refine lv_aload_n hx hb dX10_layLiars_101 rfl (lv_at hl 2 rfl) ?_
  refine k_get hC hK hP iX10 6 61 wf_X10_218 rfl (by decide) rfl rfl dX10_layLiars_102 ?_
  refine lv_iload_n hx hb dX10_layLiars_105 rfl (lv_at hl 0 rfl) ?_
  refine k_zald (v := 0) hC hK hP 0 5 rfl (by decide +kernel) (by decide) (by decide +kernel) dX10_layLiars_106 ?_
  refine lv_if_eq (tgt := 125) hx hb dX10_layLiars_107 (by decide) (fun _ => ?_) (fun c_ => absurd (by decide +kernel) c_)
  refine lv_iconst (v := 0) hx hb dX10_layLiars_125 (by decide) ?_
  refine k_zastS hC hK hP hD hS 0 5 rfl (by decide +kernel) (by decide) (by decide +kernel) dX10_layLiars_126 (fun H locs hP hD hS => ?_)
  refine lv_iinc (v := 6) (lv' := [(1, .int 6), (2, .int 0), (0, .ref a0)]) hx hb dX10_layLiars_127 hl (k := 0) rfl (by decide +kernel) (by decide) rfl (fun ls hl => ?_)
  refine lv_goto (tgt := 90) hx hb dX10_layLiars_130 (by decide) ?_
  refine lv_iload_n hx hb dX10_layLiars_90 rfl (lv_at hl 0 rfl) ?_
  refine lv_bipush (v := 64) hx hb dX10_layLiars_91 (by decide) ?_
  refine lv_icmp_ge (tgt := 133) hx hb dX10_layLiars_93 (by decide) (fun c_ => absurd c_ (by decide +kernel)) (fun _ => ?_)
  refine lv_aload_n hx hb dX10_layLiars_96 rfl (lv_at hl 2 rfl) ?_
  refine k_get hC hK hP iX10 6 61 wf_X10_218 rfl (by decide) rfl rfl dX10_layLiars_97 ?_
  refine lv_iload_n hx hb dX10_layLiars_100 rfl (lv_at hl 0 rfl) ?_
  refine lv_aload_n hx hb dX10_layLiars_101 rfl (lv_at hl 2 rfl) ?_
  refine k_get hC hK hP iX10 6 61 wf_X10_218 rfl (by decide) rfl rfl dX10_layLiars_102 ?_
  refine lv_iload_n hx hb dX10_layLiars_105 rfl (lv_at hl 0 rfl) ?_
  refine k_zald (v := 0) hC hK hP 0 6 rfl (by decide +kernel) (by decide) (by decide +kernel) dX10_layLiars_106 ?_
  refine lv_if_eq (tgt := 125) hx hb dX10_layLiars_107 (by decide) (fun _ => ?_) (fun c_ => absurd (by decide +kernel) c_)
  refine lv_iconst (v := 0) hx hb dX10_layLiars_125 (by decide) ?_
  refine k_zastS hC hK hP hD hS 0 6 rfl (by decide +kernel) (by decide) (by decide +kernel) dX10_layLiars_126 (fun H locs hP hD hS => ?_)
  refine lv_iinc (v := 7) (lv' := [(1, .int 7), (2, .int 0), (0, .ref a0)]) hx hb dX10_layLiars_127 hl (k := 0) rfl (by decide +kernel) (by decide) rfl (fun ls hl => ?_)
  refine lv_goto (tgt := 90) hx hb dX10_layLiars_130 (by decide) ?_
  refine lv_iload_n hx hb dX10_layLiars_90 rfl (lv_at hl 0 rfl) ?_
  refine lv_bipush (v := 64) hx hb dX10_layLiars_91 (by decide) ?_
  refine lv_icmp_ge (tgt := 133) hx hb dX10_layLiars_93 (by decide) (fun c_ => absurd c_ (by decide +kernel)) (fun _ => ?_)
  refine lv_aload_n hx hb dX10_layLiars_96 rfl (lv_at hl 2 rfl) ?_
  refine k_get hC hK hP iX10 6 61 wf_X10_218 rfl (by decide) rfl rfl dX10_layLiars_97 ?_
  refine lv_iload_n hx hb dX10_layLiars_100 rfl (lv_at hl 0 rfl) ?_
  refine lv_aload_n hx hb dX10_layLiars_101 rfl (lv_at hl 2 rfl) ?_
  refine k_get hC hK hP iX10 6 61 wf_X10_218 rfl (by decide) rfl rfl dX10_layLiars_102 ?_
  refine lv_iload_n hx hb dX10_layLiars_105 rfl (lv_at hl 0 rfl) ?_
  refine k_zald (v := 0) hC hK hP 0 7 rfl (by decide +kernel) (by decide) (by decide +kernel) dX10_layLiars_106 ?_
  refine lv_if_eq (tgt := 125) hx hb dX10_layLiars_107 (by decide) (fun _ => ?_) (fun c_ => absurd (by decide +kernel) c_)
  refine lv_iconst (v := 0) hx hb dX10_layLiars_125 (by decide) ?_
  refine k_zastS hC hK hP hD hS 0 7 rfl (by decide +kernel) (by decide) (by decide +kernel) dX10_layLiars_126 (fun H locs hP hD hS => ?_)
  refine lv_iinc (v := 8) (lv' := [(1, .int 8), (2, .int 0), (0, .ref a0)]) hx hb dX10_layLiars_127 hl (k := 0) rfl (by decide +kernel) (by decide) rfl (fun ls hl => ?_)
  refine lv_goto (tgt := 90) hx hb dX10_layLiars_130 (by decide) ?_
  refine lv_iload_n hx hb dX10_layLiars_90 rfl (lv_at hl 0 rfl) ?_
  refine lv_bipush (v := 64) hx hb dX10_layLiars_91 (by decide) ?_
  refine lv_icmp_ge (tgt := 133) hx hb dX10_layLiars_93 (by decide) (fun c_ => absurd c_ (by decide +kernel)) (fun _ => ?_)
  refine lv_aload_n hx hb dX10_layLiars_96 rfl (lv_at hl 2 rfl) ?_
  refine k_get hC hK hP iX10 6 61 wf_X10_218 rfl (by decide) rfl rfl dX10_layLiars_97 ?_
  refine lv_iload_n hx hb dX10_layLiars_100 rfl (lv_at hl 0 rfl) ?_
  refine lv_aload_n hx hb dX10_layLiars_101 rfl (lv_at hl 2 rfl) ?_
  refine k_get hC hK hP iX10 6 61 wf_X10_218 rfl (by decide) rfl rfl dX10_layLiars_102 ?_
  refine lv_iload_n hx hb dX10_layLiars_105 rfl (lv_at hl 0 rfl) ?_
  refine k_zald (v := 0) hC hK hP 0 8 rfl (by decide +kernel) (by decide) (by decide +kernel) dX10_layLiars_106 ?_
  refine lv_if_eq (tgt := 125) hx hb dX10_layLiars_107 (by decide) (fun _ => ?_) (fun c_ => absurd (by decide +kernel) c_)
  refine lv_iconst (v := 0) hx hb dX10_layLiars_125 (by decide) ?_
  refine k_zastS hC hK hP hD hS 0 8 rfl (by decide +kernel) (by decide) (by decide +kernel) dX10_layLiars_126 (fun H locs hP hD hS => ?_)
  refine lv_iinc (v := 9) (lv' := [(1, .int 9), (2, .int 0), (0, .ref a0)]) hx hb dX10_layLiars_127 hl (k := 0) rfl (by decide +kernel) (by decide) rfl (fun ls hl => ?_)
  refine lv_goto (tgt := 90) hx hb dX10_layLiars_130 (by decide) ?_
  refine lv_iload_n hx hb dX10_layLiars_90 rfl (lv_at hl 0 rfl) ?_
  refine lv_bipush (v := 64) hx hb dX10_layLiars_91 (by decide) ?_
  refine lv_icmp_ge (tgt := 133) hx hb dX10_layLiars_93 (by decide) (fun c_ => absurd c_ (by decide +kernel)) (fun _ => ?_)
  refine lv_aload_n hx hb dX10_layLiars_96 rfl (lv_at hl 2 rfl) ?_
  refine k_get hC hK hP iX10 6 61 wf_X10_218 rfl (by decide) rfl rfl dX10_layLiars_97 ?_
  refine lv_iload_n hx hb dX10_layLiars_100 rfl (lv_at hl 0 rfl) ?_
  refine lv_aload_n hx hb dX10_layLiars_101 rfl (lv_at hl 2 rfl) ?_
  refine k_get hC hK hP iX10 6 61 wf_X10_218 rfl (by decide) rfl rfl dX10_layLiars_102 ?_
  refine lv_iload_n hx hb dX10_layLiars_105 rfl (lv_at hl 0 rfl) ?_
  refine k_zald (v := 0) hC hK hP 0 9 rfl (by decide +kernel) (by decide) (by decide +kernel) dX10_layLiars_106 ?_
  refine lv_if_eq (tgt := 125) hx hb dX10_layLiars_107 (by decide) (fun _ => ?_) (fun c_ => absurd (by decide +kernel) c_)
  refine lv_iconst (v := 0) hx hb dX10_layLiars_125 (by decide) ?_
  refine k_zastS hC hK hP hD hS 0 9 rfl (by decide +kernel) (by decide) (by decide +kernel) dX10_layLiars_126 (fun H locs hP hD hS => ?_)
  refine lv_iinc (v := 10) (lv' := [(1, .int 10), (2, .int 0), (0, .ref a0)]) hx hb dX10_layLiars_127 hl (k := 0) rfl (by decide +kernel) (by decide) rfl (fun ls hl => ?_)
  refine lv_goto (tgt := 90) hx hb dX10_layLiars_130 (by decide) ?_
  refine lv_iload_n hx hb dX10_layLiars_90 rfl (lv_at hl 0 rfl) ?_
  refine lv_bipush (v := 64) hx hb dX10_layLiars_91 (by decide) ?_
  refine lv_icmp_ge (tgt := 133) hx hb dX10_layLiars_93 (by decide) (fun c_ => absurd c_ (by decide +kernel)) (fun _ => ?_)
  refine lv_aload_n hx hb dX10_layLiars_96 rfl (lv_at hl 2 rfl) ?_
  refine k_get hC hK hP iX10 6 61 wf_X10_218 rfl (by decide) rfl rfl dX10_layLiars_97 ?_
  refine lv_iload_n hx hb dX10_layLiars_100 rfl (lv_at hl 0 rfl) ?_
  refine lv_aload_n hx hb dX10_layLiars_101 rfl (lv_at hl 2 rfl) ?_
  refine k_get hC hK hP iX10 6 61 wf_X10_218 rfl (by decide) rfl rfl dX10_layLiars_102 ?_
  refine lv_iload_n hx hb dX10_layLiars_105 rfl (lv_at hl 0 rfl) ?_
  refine k_zald (v := 0) hC hK hP 0 10 rfl (by decide +kernel) (by decide) (by decide +kernel) dX10_layLiars_106 ?_
  refine lv_if_eq (tgt := 125) hx hb dX10_layLiars_107 (by decide) (fun _ => ?_) (fun c_ => absurd (by decide +kernel) c_)
  refine lv_iconst (v := 0) hx hb dX10_layLiars_125 (by decide) ?_
  refine k_zastS hC hK hP hD hS 0 10 rfl (by decide +kernel) (by decide) (by decide +kernel) dX10_layLiars_126 (fun H locs hP hD hS => ?_)
  refine lv_iinc (v := 11) (lv' := [(1, .int 11), (2, .int 0), (0, .ref a0)]) hx hb dX10_layLiars_127 hl (k := 0) rfl (by decide +kernel) (by decide) rfl (fun ls hl => ?_)
  refine lv_goto (tgt := 90) hx hb dX10_layLiars_130 (by decide) ?_
  refine lv_iload_n hx hb dX10_layLiars_90 rfl (lv_at hl 0 rfl) ?_
  refine lv_bipush (v := 64) hx hb dX10_layLiars_91 (by decide) ?_
  refine lv_icmp_ge (tgt := 133) hx hb dX10_layLiars_93 (by decide) (fun c_ => absurd c_ (by decide +kernel)) (fun _ => ?_)
  refine lv_aload_n hx hb dX10_layLiars_96 rfl (lv_at hl 2 rfl) ?_
  refine k_get hC hK hP iX10 6 61 wf_X10_218 rfl (by decide) rfl rfl dX10_layLiars_97 ?_
  refine lv_iload_n hx hb dX10_layLiars_100 rfl (lv_at hl 0 rfl) ?_
  refine lv_aload_n hx hb dX10_layLiars_101 rfl (lv_at hl 2 rfl) ?_
  refine k_get hC hK hP iX10 6 61 wf_X10_218 rfl (by decide) rfl rfl dX10_layLiars_102 ?_
  refine lv_iload_n hx hb dX10_layLiars_105 rfl (lv_at hl 0 rfl) ?_
  refine k_zald (v := 0) hC hK hP 0 11 rfl (by decide +kernel) (by decide) (by decide +kernel) dX10_layLiars_106 ?_
  refine lv_if_eq (tgt := 125) hx hb dX10_layLiars_107 (by decide) (fun _ => ?_) (fun c_ => absurd (by decide +kernel) c_)
  refine lv_iconst (v := 0) hx hb dX10_layLiars_125 (by decide) ?_
  refine k_zastS hC hK hP hD hS 0 11 rfl (by decide +kernel) (by decide) (by decide +kernel) dX10_layLiars_126 (fun H locs hP hD hS => ?_)
  refine lv_iinc (v := 12) (lv' := [(1, .int 12), (2, .int 0), (0, .ref a0)]) hx hb dX10_layLiars_127 hl (k := 0) rfl (by decide +kernel) (by decide) rfl (fun ls hl => ?_)
  refine lv_goto (tgt := 90) hx hb dX10_layLiars_130 (by decide) ?_
  refine lv_iload_n hx hb dX10_layLiars_90 rfl (lv_at hl 0 rfl) ?_
  refine lv_bipush (v := 64) hx hb dX10_layLiars_91 (by decide) ?_
  refine lv_icmp_ge (tgt := 133) hx hb dX10_layLiars_93 (by decide) (fun c_ => absurd c_ (by decide +kernel)) (fun _ => ?_)
  refine lv_aload_n hx hb dX10_layLiars_96 rfl (lv_at hl 2 rfl) ?_
  refine k_get hC hK hP iX10 6 61 wf_X10_218 rfl (by decide) rfl rfl dX10_layLiars_97 ?_
  refine lv_iload_n hx hb dX10_layLiars_100 rfl (lv_at hl 0 rfl) ?_
  refine lv_aload_n hx hb dX10_layLiars_101 rfl (lv_at hl 2 rfl) ?_
  refine k_get hC hK hP iX10 6 61 wf_X10_218 rfl (by decide) rfl rfl dX10_layLiars_102 ?_
  refine lv_iload_n hx hb dX10_layLiars_105 rfl (lv_at hl 0 rfl) ?_
  refine k_zald (v := 0) hC hK hP 0 12 rfl (by decide +kernel) (by decide) (by decide +kernel) dX10_layLiars_106 ?_
  refine lv_if_eq (tgt := 125) hx hb dX10_layLiars_107 (by decide) (fun _ => ?_) (fun c_ => absurd (by decide +kernel) c_)
  refine lv_iconst (v := 0) hx hb dX10_layLiars_125 (by decide) ?_
  refine k_zastS hC hK hP hD hS 0 12 rfl (by decide +kernel) (by decide) (by decide +kernel) dX10_layLiars_126 (fun H locs hP hD hS => ?_)
  refine lv_iinc (v := 13) (lv' := [(1, .int 13), (2, .int 0), (0, .ref a0)]) hx hb dX10_layLiars_127 hl (k := 0) rfl (by decide +kernel) (by decide) rfl (fun ls hl => ?_)
  refine lv_goto (tgt := 90) hx hb dX10_layLiars_130 (by decide) ?_
  refine lv_iload_n hx hb dX10_layLiars_90 rfl (lv_at hl 0 rfl) ?_
  refine lv_bipush (v := 64) hx hb dX10_layLiars_91 (by decide) ?_
  refine lv_icmp_ge (tgt := 133) hx hb dX10_layLiars_93 (by decide) (fun c_ => absurd c_ (by decide +kernel)) (fun _ => ?_)
  refine lv_aload_n hx hb dX10_layLiars_96 rfl (lv_at hl 2 rfl) ?_
  refine k_get hC hK hP iX10 6 61 wf_X10_218 rfl (by decide) rfl rfl dX10_layLiars_97 ?_
  refine lv_iload_n hx hb dX10_layLiars_100 rfl (lv_at hl 0 rfl) ?_
  refine lv_aload_n hx hb dX10_layLiars_101 rfl (lv_at hl 2 rfl) ?_
  refine k_get hC hK hP iX10 6 61 wf_X10_218 rfl (by decide) rfl rfl dX10_layLiars_102 ?_
  refine lv_iload_n hx hb dX10_layLiars_105 rfl (lv_at hl 0 rfl) ?_
  refine k_zald (v := 0) hC hK hP 0 13 rfl (by decide +kernel) (by decide) (by decide +kernel) dX10_layLiars_106 ?_
  refine lv_if_eq (tgt := 125) hx hb dX10_layLiars_107 (by decide) (fun _ => ?_) (fun c_ => absurd (by decide +kernel) c_)
  refine lv_iconst (v := 0) hx hb dX10_layLiars_125 (by decide) ?_
  refine k_zastS hC hK hP hD hS 0 13 rfl (by decide +kernel) (by decide) (by decide +kernel) dX10_layLiars_126 (fun H locs hP hD hS => ?_)
  refine lv_iinc (v := 14) (lv' := [(1, .int 14), (2, .int 0), (0, .ref a0)]) hx hb dX10_layLiars_127 hl (k := 0) rfl (by decide +kernel) (by decide) rfl (fun ls hl => ?_)
  refine lv_goto (tgt := 90) hx hb dX10_layLiars_130 (by decide) ?_
  refine lv_iload_n hx hb dX10_layLiars_90 rfl (lv_at hl 0 rfl) ?_
  refine lv_bipush (v := 64) hx hb dX10_layLiars_91 (by decide) ?_
  refine lv_icmp_ge (tgt := 133) hx hb dX10_layLiars_93 (by decide) (fun c_ => absurd c_ (by decide +kernel)) (fun _ => ?_)
  refine lv_aload_n hx hb dX10_layLiars_96 rfl (lv_at hl 2 rfl) ?_
  refine k_get hC hK hP iX10 6 61 wf_X10_218 rfl (by decide) rfl rfl dX10_layLiars_97 ?_
  refine lv_iload_n hx hb dX10_layLiars_100 rfl (lv_at hl 0 rfl) ?_
  refine lv_aload_n hx hb dX10_layLiars_101 rfl (lv_at hl 2 rfl) ?_
  refine k_get hC hK hP iX10 6 61 wf_X10_218 rfl (by decide) rfl rfl dX10_layLiars_102 ?_
  refine lv_iload_n hx hb dX10_layLiars_105 rfl (lv_at hl 0 rfl) ?_
  refine k_zald (v := 0) hC hK hP 0 14 rfl (by decide +kernel) (by decide) (by decide +kernel) dX10_layLiars_106 ?_
  refine lv_if_eq (tgt := 125) hx hb dX10_layLiars_107 (by decide) (fun _ => ?_) (fun c_ => absurd (by decide +kernel) c_)
  refine lv_iconst (v := 0) hx hb dX10_layLiars_125 (by decide) ?_
  refine k_zastS hC hK hP hD hS 0 14 rfl (by decide +kernel) (by decide) (by decide +kernel) dX10_layLiars_126 (fun H locs hP hD hS => ?_)
  refine lv_iinc (v := 15) (lv' := [(1, .int 15), (2, .int 0), (0, .ref a0)]) hx hb dX10_layLiars_127 hl (k := 0) rfl (by decide +kernel) (by decide) rfl (fun ls hl => ?_)
  refine lv_goto (tgt := 90) hx hb dX10_layLiars_130 (by decide) ?_
  refine lv_iload_n hx hb dX10_layLiars_90 rfl (lv_at hl 0 rfl) ?_
  refine lv_bipush (v := 64) hx hb dX10_layLiars_91 (by decide) ?_
  refine lv_icmp_ge (tgt := 133) hx hb dX10_layLiars_93 (by decide) (fun c_ => absurd c_ (by decide +kernel)) (fun _ => ?_)
  refine lv_aload_n hx hb dX10_layLiars_96 rfl (lv_at hl 2 rfl) ?_
  refine k_get hC hK hP iX10 6 61 wf_X10_218 rfl (by decide) rfl rfl dX10_layLiars_97 ?_
  refine lv_iload_n hx hb dX10_layLiars_100 rfl (lv_at hl 0 rfl) ?_
  refine lv_aload_n hx hb dX10_layLiars_101 rfl (lv_at hl 2 rfl) ?_
  refine k_get hC hK hP iX10 6 61 wf_X10_218 rfl (by decide) rfl rfl dX10_layLiars_102 ?_
  refine lv_iload_n hx hb dX10_layLiars_105 rfl (lv_at hl 0 rfl) ?_
  refine k_zald (v := 0) hC hK hP 0 15 rfl (by decide +kernel) (by decide) (by decide +kernel) dX10_layLiars_106 ?_
  refine lv_if_eq (tgt := 125) hx hb dX10_layLiars_107 (by decide) (fun _ => ?_) (fun c_ => absurd (by decide +kernel) c_)
  refine lv_iconst (v := 0) hx hb dX10_layLiars_125 (by decide) ?_
  refine k_zastS hC hK hP hD hS 0 15 rfl (by decide +kernel) (by decide) (by decide +kernel) dX10_layLiars_126 (fun H locs hP hD hS => ?_)
  refine lv_iinc (v := 16) (lv' := [(1, .int 16), (2, .int 0), (0, .ref a0)]) hx hb dX10_layLiars_127 hl (k := 0) rfl (by decide +kernel) (by decide) rfl (fun ls hl => ?_)
  refine lv_goto (tgt := 90) hx hb dX10_layLiars_130 (by decide) ?_
  refine lv_iload_n hx hb dX10_layLiars_90 rfl (lv_at hl 0 rfl) ?_
  refine lv_bipush (v := 64) hx hb dX10_layLiars_91 (by decide) ?_
  refine lv_icmp_ge (tgt := 133) hx hb dX10_layLiars_93 (by decide) (fun c_ => absurd c_ (by decide +kernel)) (fun _ => ?_)
  refine lv_aload_n hx hb dX10_layLiars_96 rfl (lv_at hl 2 rfl) ?_
  refine k_get hC hK hP iX10 6 61 wf_X10_218 rfl (by decide) rfl rfl dX10_layLiars_97 ?_
  refine lv_iload_n hx hb dX10_layLiars_100 rfl (lv_at hl 0 rfl) ?_
  refine lv_aload_n hx hb dX10_layLiars_101 rfl (lv_at hl 2 rfl) ?_
  refine k_get hC hK hP iX10 6 61 wf_X10_218 rfl (by decide) rfl rfl dX10_layLiars_102 ?_
  refine lv_iload_n hx hb dX10_layLiars_105 rfl (lv_at hl 0 rfl) ?_
  refine k_zald (v := 0) hC hK hP 0 16 rfl (by decide +kernel) (by decide) (by decide +kernel) dX10_layLiars_106 ?_
  refine lv_if_eq (tgt := 125) hx hb dX10_layLiars_107 (by decide) (fun _ => ?_) (fun c_ => absurd (by decide +kernel) c_)
  refine lv_iconst (v := 0) hx hb dX10_layLiars_125 (by decide) ?_
  refine k_zastS hC hK hP hD hS 0 16 rfl (by decide +kernel) (by decide) (by decide +kernel) dX10_layLiars_126 (fun H locs hP hD hS => ?_)
  refine lv_iinc (v := 17) (lv' := [(1, .int 17), (2, .int 0), (0, .ref a0)]) hx hb dX10_layLiars_127 hl (k := 0) rfl (by decide +kernel) (by decide) rfl (fun ls hl => ?_)
  refine lv_goto (tgt := 90) hx hb dX10_layLiars_130 (by decide) ?_
  refine lv_iload_n hx hb dX10_layLiars_90 rfl (lv_at hl 0 rfl) ?_
  refine lv_bipush (v := 64) hx hb dX10_layLiars_91 (by decide) ?_
  refine lv_icmp_ge (tgt := 133) hx hb dX10_layLiars_93 (by decide) (fun c_ => absurd c_ (by decide +kernel)) (fun _ => ?_)
  refine lv_aload_n hx hb dX10_layLiars_96 rfl (lv_at hl 2 rfl) ?_
  refine k_get hC hK hP iX10 6 61 wf_X10_218 rfl (by decide) rfl rfl dX10_layLiars_97 ?_
  refine lv_iload_n hx hb dX10_layLiars_100 rfl (lv_at hl 0 rfl) ?_
  refine lv_aload_n hx hb dX10_layLiars_101 rfl (lv_at hl 2 rfl) ?_
  refine k_get hC hK hP iX10 6 61 wf_X10_218 rfl (by decide) rfl rfl dX10_layLiars_102 ?_
  refine lv_iload_n hx hb dX10_layLiars_105 rfl (lv_at hl 0 rfl) ?_
  refine k_zald (v := 0) hC hK hP 0 17 rfl (by decide +kernel) (by decide) (by decide +kernel) dX10_layLiars_106 ?_
  refine lv_if_eq (tgt := 125) hx hb dX10_layLiars_107 (by decide) (fun _ => ?_) (fun c_ => absurd (by decide +kernel) c_)
  refine lv_iconst (v := 0) hx hb dX10_layLiars_125 (by decide) ?_
  refine k_zastS hC hK hP hD hS 0 17 rfl (by decide +kernel) (by decide) (by decide +kernel) dX10_layLiars_126 (fun H locs hP hD hS => ?_)
  refine lv_iinc (v := 18) (lv' := [(1, .int 18), (2, .int 0), (0, .ref a0)]) hx hb dX10_layLiars_127 hl (k := 0) rfl (by decide +kernel) (by decide) rfl (fun ls hl => ?_)
  refine lv_goto (tgt := 90) hx hb dX10_layLiars_130 (by decide) ?_
  refine lv_iload_n hx hb dX10_layLiars_90 rfl (lv_at hl 0 rfl) ?_
  refine lv_bipush (v := 64) hx hb dX10_layLiars_91 (by decide) ?_
  refine lv_icmp_ge (tgt := 133) hx hb dX10_layLiars_93 (by decide) (fun c_ => absurd c_ (by decide +kernel)) (fun _ => ?_)
  refine lv_aload_n hx hb dX10_layLiars_96 rfl (lv_at hl 2 rfl) ?_
  refine k_get hC hK hP iX10 6 61 wf_X10_218 rfl (by decide) rfl rfl dX10_layLiars_97 ?_
  refine lv_iload_n hx hb dX10_layLiars_100 rfl (lv_at hl 0 rfl) ?_
  refine lv_aload_n hx hb dX10_layLiars_101 rfl (lv_at hl 2 rfl) ?_
  refine k_get hC hK hP iX10 6 61 wf_X10_218 rfl (by decide) rfl rfl dX10_layLiars_102 ?_
  refine lv_iload_n hx hb dX10_layLiars_105 rfl (lv_at hl 0 rfl) ?_
  refine k_zald (v := 0) hC hK hP 0 18 rfl (by decide +kernel) (by decide) (by decide +kernel) dX10_layLiars_106 ?_
  refine lv_if_eq (tgt := 125) hx hb dX10_layLiars_107 (by decide) (fun _ => ?_) (fun c_ => absurd (by decide +kernel) c_)
  refine lv_iconst (v := 0) hx hb dX10_layLiars_125 (by decide) ?_
  refine k_zastS hC hK hP hD hS 0 18 rfl (by decide +kernel) (by decide) (by decide +kernel) dX10_layLiars_126 (fun H locs hP hD hS => ?_)
  refine lv_iinc (v := 19) (lv' := [(1, .int 19), (2, .int 0), (0, .ref a0)]) hx hb dX10_layLiars_127 hl (k := 0) rfl (by decide +kernel) (by decide) rfl (fun ls hl => ?_)
  refine lv_goto (tgt := 90) hx hb dX10_layLiars_130 (by decide) ?_
  refine lv_iload_n hx hb dX10_layLiars_90 rfl (lv_at hl 0 rfl) ?_
  refine lv_bipush (v := 64) hx hb dX10_layLiars_91 (by decide) ?_
  refine lv_icmp_ge (tgt := 133) hx hb dX10_layLiars_93 (by decide) (fun c_ => absurd c_ (by decide +kernel)) (fun _ => ?_)
  refine lv_aload_n hx hb dX10_layLiars_96 rfl (lv_at hl 2 rfl) ?_
  refine k_get hC hK hP iX10 6 61 wf_X10_218 rfl (by decide) rfl rfl dX10_layLiars_97 ?_
  refine lv_iload_n hx hb dX10_layLiars_100 rfl (lv_at hl 0 rfl) ?_
  refine lv_aload_n hx hb dX10_layLiars_101 rfl (lv_at hl 2 rfl) ?_
  refine k_get hC hK hP iX10 6 61 wf_X10_218 rfl (by decide) rfl rfl dX10_layLiars_102 ?_
  refine lv_iload_n hx hb dX10_layLiars_105 rfl (lv_at hl 0 rfl) ?_
  refine k_zald (v := 0) hC hK hP 0 19 rfl (by decide +kernel) (by decide) (by decide +kernel) dX10_layLiars_106 ?_
  refine lv_if_eq (tgt := 125) hx hb dX10_layLiars_107 (by decide) (fun _ => ?_) (fun c_ => absurd (by decide +kernel) c_)
  refine lv_iconst (v := 0) hx hb dX10_layLiars_125 (by decide) ?_
  refine k_zastS hC hK hP hD hS 0 19 rfl (by decide +kernel) (by decide) (by decide +kernel) dX10_layLiars_126 (fun H locs hP hD hS => ?_)
  refine lv_iinc (v := 20) (lv' := [(1, .int 20), (2, .int 0), (0, .ref a0)]) hx hb dX10_layLiars_127 hl (k := 0) rfl (by decide +kernel) (by decide) rfl (fun ls hl => ?_)
  refine lv_goto (tgt := 90) hx hb dX10_layLiars_130 (by decide) ?_
  refine lv_iload_n hx hb dX10_layLiars_90 rfl (lv_at hl 0 rfl) ?_
  refine lv_bipush (v := 64) hx hb dX10_layLiars_91 (by decide) ?_
  refine lv_icmp_ge (tgt := 133) hx hb dX10_layLiars_93 (by decide) (fun c_ => absurd c_ (by decide +kernel)) (fun _ => ?_)
  refine lv_aload_n hx hb dX10_layLiars_96 rfl (lv_at hl 2 rfl) ?_
  refine k_get hC hK hP iX10 6 61 wf_X10_218 rfl (by decide) rfl rfl dX10_layLiars_97 ?_
  refine lv_iload_n hx hb dX10_layLiars_100 rfl (lv_at hl 0 rfl) ?_
  refine lv_aload_n hx hb dX10_layLiars_101 rfl (lv_at hl 2 rfl) ?_
  refine k_get hC hK hP iX10 6 61 wf_X10_218 rfl (by decide) rfl rfl dX10_layLiars_102 ?_
  refine lv_iload_n hx hb dX10_layLiars_105 rfl (lv_at hl 0 rfl) ?_
  refine k_zald (v := 0) hC hK hP 0 20 rfl (by decide +kernel) (by decide) (by decide +kernel) dX10_layLiars_106 ?_
  refine lv_if_eq (tgt := 125) hx hb dX10_layLiars_107 (by decide) (fun _ => ?_) (fun c_ => absurd (by decide +kernel) c_)
  refine lv_iconst (v := 0) hx hb dX10_layLiars_125 (by decide) ?_
  refine k_zastS hC hK hP hD hS 0 20 rfl (by decide +kernel) (by decide) (by decide +kernel) dX10_layLiars_126 (fun H locs hP hD hS => ?_)
  refine lv_iinc (v := 21) (lv' := [(1, .int 21), (2, .int 0), (0, .ref a0)]) hx hb dX10_layLiars_127 hl (k := 0) rfl (by decide +kernel) (by decide) rfl (fun ls hl => ?_)
  refine lv_goto (tgt := 90) hx hb dX10_layLiars_130 (by decide) ?_
  refine lv_iload_n hx hb dX10_layLiars_90 rfl (lv_at hl 0 rfl) ?_
  refine lv_bipush (v := 64) hx hb dX10_layLiars_91 (by decide) ?_
  refine lv_icmp_ge (tgt := 133) hx hb dX10_layLiars_93 (by decide) (fun c_ => absurd c_ (by decide +kernel)) (fun _ => ?_)
  refine lv_aload_n hx hb dX10_layLiars_96 rfl (lv_at hl 2 rfl) ?_
  refine k_get hC hK hP iX10 6 61 wf_X10_218 rfl (by decide) rfl rfl dX10_layLiars_97 ?_
  refine lv_iload_n hx hb dX10_layLiars_100 rfl (lv_at hl 0 rfl) ?_
  refine lv_aload_n hx hb dX10_layLiars_101 rfl (lv_at hl 2 rfl) ?_
  refine k_get hC hK hP iX10 6 61 wf_X10_218 rfl (by decide) rfl rfl dX10_layLiars_102 ?_
  refine lv_iload_n hx hb dX10_layLiars_105 rfl (lv_at hl 0 rfl) ?_
  refine k_zald (v := 0) hC hK hP 0 21 rfl (by decide +kernel) (by decide) (by decide +kernel) dX10_layLiars_106 ?_
  refine lv_if_eq (tgt := 125) hx hb dX10_layLiars_107 (by decide) (fun _ => ?_) (fun c_ => absurd (by decide +kernel) c_)
  refine lv_iconst (v := 0) hx hb dX10_layLiars_125 (by decide) ?_
  refine k_zastS hC hK hP hD hS 0 21 rfl (by decide +kernel) (by decide) (by decide +kernel) dX10_layLiars_126 (fun H locs hP hD hS => ?_)
  refine lv_iinc (v := 22) (lv' := [(1, .int 22), (2, .int 0), (0, .ref a0)]) hx hb dX10_layLiars_127 hl (k := 0) rfl (by decide +kernel) (by decide) rfl (fun ls hl => ?_)
  refine lv_goto (tgt := 90) hx hb dX10_layLiars_130 (by decide) ?_
  refine lv_iload_n hx hb dX10_layLiars_90 rfl (lv_at hl 0 rfl) ?_
  refine lv_bipush (v := 64) hx hb dX10_layLiars_91 (by decide) ?_
  refine lv_icmp_ge (tgt := 133) hx hb dX10_layLiars_93 (by decide) (fun c_ => absurd c_ (by decide +kernel)) (fun _ => ?_)
  refine lv_aload_n hx hb dX10_layLiars_96 rfl (lv_at hl 2 rfl) ?_
  refine k_get hC hK hP iX10 6 61 wf_X10_218 rfl (by decide) rfl rfl dX10_layLiars_97 ?_
  refine lv_iload_n hx hb dX10_layLiars_100 rfl (lv_at hl 0 rfl) ?_
  refine lv_aload_n hx hb dX10_layLiars_101 rfl (lv_at hl 2 rfl) ?_
  refine k_get hC hK hP iX10 6 61 wf_X10_218 rfl (by decide) rfl rfl dX10_layLiars_102 ?_
  refine lv_iload_n hx hb dX10_layLiars_105 rfl (lv_at hl 0 rfl) ?_
  refine k_zald (v := 0) hC hK hP 0 22 rfl (by decide +kernel) (by decide) (by decide +kernel) dX10_layLiars_106 ?_
  refine lv_if_eq (tgt := 125) hx hb dX10_layLiars_107 (by decide) (fun _ => ?_) (fun c_ => absurd (by decide +kernel) c_)
  refine lv_iconst (v := 0) hx hb dX10_layLiars_125 (by decide) ?_
  refine k_zastS hC hK hP hD hS 0 22 rfl (by decide +kernel) (by decide) (by decide +kernel) dX10_layLiars_126 (fun H locs hP hD hS => ?_)
  refine lv_iinc (v := 23) (lv' := [(1, .int 23), (2, .int 0), (0, .ref a0)]) hx hb dX10_layLiars_127 hl (k := 0) rfl (by decide +kernel) (by decide) rfl (fun ls hl => ?_)
  refine lv_goto (tgt := 90) hx hb dX10_layLiars_130 (by decide) ?_
  refine lv_iload_n hx hb dX10_layLiars_90 rfl (lv_at hl 0 rfl) ?_
  refine lv_bipush (v := 64) hx hb dX10_layLiars_91 (by decide) ?_
  refine lv_icmp_ge (tgt := 133) hx hb dX10_layLiars_93 (by decide) (fun c_ => absurd c_ (by decide +kernel)) (fun _ => ?_)
  refine lv_aload_n hx hb dX10_layLiars_96 rfl (lv_at hl 2 rfl) ?_
  refine k_get hC hK hP iX10 6 61 wf_X10_218 rfl (by decide) rfl rfl dX10_layLiars_97 ?_
  refine lv_iload_n hx hb dX10_layLiars_100 rfl (lv_at hl 0 rfl) ?_
  refine lv_aload_n hx hb dX10_layLiars_101 rfl (lv_at hl 2 rfl) ?_
  refine k_get hC hK hP iX10 6 61 wf_X10_218 rfl (by decide) rfl rfl dX10_layLiars_102 ?_
  refine lv_iload_n hx hb dX10_layLiars_105 rfl (lv_at hl 0 rfl) ?_
  refine k_zald (v := 0) hC hK hP 0 23 rfl (by decide +kernel) (by decide) (by decide +kernel) dX10_layLiars_106 ?_
  refine lv_if_eq (tgt := 125) hx hb dX10_layLiars_107 (by decide) (fun _ => ?_) (fun c_ => absurd (by decide +kernel) c_)
  refine lv_iconst (v := 0) hx hb dX10_layLiars_125 (by decide) ?_
  refine k_zastS hC hK hP hD hS 0 23 rfl (by decide +kernel) (by decide) (by decide +kernel) dX10_layLiars_126 (fun H locs hP hD hS => ?_)
  refine lv_iinc (v := 24) (lv' := [(1, .int 24), (2, .int 0), (0, .ref a0)]) hx hb dX10_layLiars_127 hl (k := 0) rfl (by decide +kernel) (by decide) rfl (fun ls hl => ?_)
  refine lv_goto (tgt := 90) hx hb dX10_layLiars_130 (by decide) ?_
  refine lv_iload_n hx hb dX10_layLiars_90 rfl (lv_at hl 0 rfl) ?_
  refine lv_bipush (v := 64) hx hb dX10_layLiars_91 (by decide) ?_
  refine lv_icmp_ge (tgt := 133) hx hb dX10_layLiars_93 (by decide) (fun c_ => absurd c_ (by decide +kernel)) (fun _ => ?_)
  refine lv_aload_n hx hb dX10_layLiars_96 rfl (lv_at hl 2 rfl) ?_
  refine k_get hC hK hP iX10 6 61 wf_X10_218 rfl (by decide) rfl rfl dX10_layLiars_97 ?_
  refine lv_iload_n hx hb dX10_layLiars_100 rfl (lv_at hl 0 rfl) ?_
  refine lv_aload_n hx hb dX10_layLiars_101 rfl (lv_at hl 2 rfl) ?_
  refine k_get hC hK hP iX10 6 61 wf_X10_218 rfl (by decide) rfl rfl dX10_layLiars_102 ?_
  refine lv_iload_n hx hb dX10_layLiars_105 rfl (lv_at hl 0 rfl) ?_
  refine k_zald (v := 0) hC hK hP 0 24 rfl (by decide +kernel) (by decide) (by decide +kernel) dX10_layLiars_106 ?_
  refine lv_if_eq (tgt := 125) hx hb dX10_layLiars_107 (by decide) (fun _ => ?_) (fun c_ => absurd (by decide +kernel) c_)
  refine lv_iconst (v := 0) hx hb dX10_layLiars_125 (by decide) ?_
  refine k_zastS hC hK hP hD hS 0 24 rfl (by decide +kernel) (by decide) (by decide +kernel) dX10_layLiars_126 (fun H locs hP hD hS => ?_)
  refine lv_iinc (v := 25) (lv' := [(1, .int 25), (2, .int 0), (0, .ref a0)]) hx hb dX10_layLiars_127 hl (k := 0) rfl (by decide +kernel) (by decide) rfl (fun ls hl => ?_)
  refine lv_goto (tgt := 90) hx hb dX10_layLiars_130 (by decide) ?_
  refine lv_iload_n hx hb dX10_layLiars_90 rfl (lv_at hl 0 rfl) ?_
  refine lv_bipush (v := 64) hx hb dX10_layLiars_91 (by decide) ?_
  refine lv_icmp_ge (tgt := 133) hx hb dX10_layLiars_93 (by decide) (fun c_ => absurd c_ (by decide +kernel)) (fun _ => ?_)
  refine lv_aload_n hx hb dX10_layLiars_96 rfl (lv_at hl 2 rfl) ?_
  refine k_get hC hK hP iX10 6 61 wf_X10_218 rfl (by decide) rfl rfl dX10_layLiars_97 ?_
  refine lv_iload_n hx hb dX10_layLiars_100 rfl (lv_at hl 0 rfl) ?_
  refine lv_aload_n hx hb dX10_layLiars_101 rfl (lv_at hl 2 rfl) ?_
  refine k_get hC hK hP iX10 6 61 wf_X10_218 rfl (by decide) rfl rfl dX10_layLiars_102 ?_
  refine lv_iload_n hx hb dX10_layLiars_105 rfl (lv_at hl 0 rfl) ?_
  refine k_zald (v := 0) hC hK hP 0 25 rfl (by decide +kernel) (by decide) (by decide +kernel) dX10_layLiars_106 ?_
  refine lv_if_eq (tgt := 125) hx hb dX10_layLiars_107 (by decide) (fun _ => ?_) (fun c_ => absurd (by decide +kernel) c_)
  refine lv_iconst (v := 0) hx hb dX10_layLiars_125 (by decide) ?_
  refine k_zastS hC hK hP hD hS 0 25 rfl (by decide +kernel) (by decide) (by decide +kernel) dX10_layLiars_126 (fun H locs hP hD hS => ?_)
  refine lv_iinc (v := 26) (lv' := [(1, .int 26), (2, .int 0), (0, .ref a0)]) hx hb dX10_layLiars_127 hl (k := 0) rfl (by decide +kernel) (by decide) rfl (fun ls hl => ?_)
  refine lv_goto (tgt := 90) hx hb dX10_layLiars_130 (by decide) ?_
  refine lv_iload_n hx hb dX10_layLiars_90 rfl (lv_at hl 0 rfl) ?_
  refine lv_bipush (v := 64) hx hb dX10_layLiars_91 (by decide) ?_
  refine lv_icmp_ge (tgt := 133) hx hb dX10_layLiars_93 (by decide) (fun c_ => absurd c_ (by decide +kernel)) (fun _ => ?_)
  refine lv_aload_n hx hb dX10_layLiars_96 rfl (lv_at hl 2 rfl) ?_
  refine k_get hC hK hP iX10 6 61 wf_X10_218 rfl (by decide) rfl rfl dX10_layLiars_97 ?_
  refine lv_iload_n hx hb dX10_layLiars_100 rfl (lv_at hl 0 rfl) ?_
  refine lv_aload_n hx hb dX10_layLiars_101 rfl (lv_at hl 2 rfl) ?_
  refine k_get hC hK hP iX10 6 61 wf_X10_218 rfl (by decide) rfl rfl dX10_layLiars_102 ?_
  refine lv_iload_n hx hb dX10_layLiars_105 rfl (lv_at hl 0 rfl) ?_
  refine k_zald (v := 0) hC hK hP 0 26 rfl (by decide +kernel) (by decide) (by decide +kernel) dX10_layLiars_106 ?_
  refine lv_if_eq (tgt := 125) hx hb dX10_layLiars_107 (by decide) (fun _ => ?_) (fun c_ => absurd (by decide +kernel) c_)
  refine lv_iconst (v := 0) hx hb dX10_layLiars_125 (by decide) ?_
  refine k_zastS hC hK hP hD hS 0 26 rfl (by decide +kernel) (by decide) (by decide +kernel) dX10_layLiars_126 (fun H locs hP hD hS => ?_)
  refine lv_iinc (v := 27) (lv' := [(1, .int 27), (2, .int 0), (0, .ref a0)]) hx hb dX10_layLiars_127 hl (k := 0) rfl (by decide +kernel) (by decide) rfl (fun ls hl => ?_)
  refine lv_goto (tgt := 90) hx hb dX10_layLiars_130 (by decide) ?_
  refine lv_iload_n hx hb dX10_layLiars_90 rfl (lv_at hl 0 rfl) ?_
  refine lv_bipush (v := 64) hx hb dX10_layLiars_91 (by decide) ?_
  refine lv_icmp_ge (tgt := 133) hx hb dX10_layLiars_93 (by decide) (fun c_ => absurd c_ (by decide +kernel)) (fun _ => ?_)
  refine lv_aload_n hx hb dX10_layLiars_96 rfl (lv_at hl 2 rfl) ?_
  refine k_get hC hK hP iX10 6 61 wf_X10_218 rfl (by decide) rfl rfl dX10_layLiars_97 ?_
  refine lv_iload_n hx hb dX10_layLiars_100 rfl (lv_at hl 0 rfl) ?_
  refine lv_aload_n hx hb dX10_layLiars_101 rfl (lv_at hl 2 rfl) ?_
  refine k_get hC hK hP iX10 6 61 wf_X10_218 rfl (by decide) rfl rfl dX10_layLiars_102 ?_
  refine lv_iload_n hx hb dX10_layLiars_105 rfl (lv_at hl 0 rfl) ?_
  refine k_zald (v := 0) hC hK hP 0 27 rfl (by decide +kernel) (by decide) (by decide +kernel) dX10_layLiars_106 ?_
  refine lv_if_eq (tgt := 125) hx hb dX10_layLiars_107 (by decide) (fun _ => ?_) (fun c_ => absurd (by decide +kernel) c_)
  refine lv_iconst (v := 0) hx hb dX10_layLiars_125 (by decide) ?_
  refine k_zastS hC hK hP hD hS 0 27 rfl (by decide +kernel) (by decide) (by decide +kernel) dX10_layLiars_126 (fun H locs hP hD hS => ?_)
  refine lv_iinc (v := 28) (lv' := [(1, .int 28), (2, .int 0), (0, .ref a0)]) hx hb dX10_layLiars_127 hl (k := 0) rfl (by decide +kernel) (by decide) rfl (fun ls hl => ?_)
  refine lv_goto (tgt := 90) hx hb dX10_layLiars_130 (by decide) ?_
  refine lv_iload_n hx hb dX10_layLiars_90 rfl (lv_at hl 0 rfl) ?_
  refine lv_bipush (v := 64) hx hb dX10_layLiars_91 (by decide) ?_
  refine lv_icmp_ge (tgt := 133) hx hb dX10_layLiars_93 (by decide) (fun c_ => absurd c_ (by decide +kernel)) (fun _ => ?_)
  refine lv_aload_n hx hb dX10_layLiars_96 rfl (lv_at hl 2 rfl) ?_
  refine k_get hC hK hP iX10 6 61 wf_X10_218 rfl (by decide) rfl rfl dX10_layLiars_97 ?_
  refine lv_iload_n hx hb dX10_layLiars_100 rfl (lv_at hl 0 rfl) ?_
  refine lv_aload_n hx hb dX10_layLiars_101 rfl (lv_at hl 2 rfl) ?_
  refine k_get hC hK hP iX10 6 61 wf_X10_218 rfl (by decide) rfl rfl dX10_layLiars_102 ?_
  refine lv_iload_n hx hb dX10_layLiars_105 rfl (lv_at hl 0 rfl) ?_
  refine k_zald (v := 0) hC hK hP 0 28 rfl (by decide +kernel) (by decide) (by decide +kernel) dX10_layLiars_106 ?_
  refine lv_if_eq (tgt := 125) hx hb dX10_layLiars_107 (by decide) (fun _ => ?_) (fun c_ => absurd (by decide +kernel) c_)
  refine lv_iconst (v := 0) hx hb dX10_layLiars_125 (by decide) ?_
  refine k_zastS hC hK hP hD hS 0 28 rfl (by decide +kernel) (by decide) (by decide +kernel) dX10_layLiars_126 (fun H locs hP hD hS => ?_)
  refine lv_iinc (v := 29) (lv' := [(1, .int 29), (2, .int 0), (0, .ref a0)]) hx hb dX10_layLiars_127 hl (k := 0) rfl (by decide +kernel) (by decide) rfl (fun ls hl => ?_)
  refine lv_goto (tgt := 90) hx hb dX10_layLiars_130 (by decide) ?_
  refine lv_iload_n hx hb dX10_layLiars_90 rfl (lv_at hl 0 rfl) ?_
  refine lv_bipush (v := 64) hx hb dX10_layLiars_91 (by decide) ?_
  refine lv_icmp_ge (tgt := 133) hx hb dX10_layLiars_93 (by decide) (fun c_ => absurd c_ (by decide +kernel)) (fun _ => ?_)
  refine lv_aload_n hx hb dX10_layLiars_96 rfl (lv_at hl 2 rfl) ?_
  refine k_get hC hK hP iX10 6 61 wf_X10_218 rfl (by decide) rfl rfl dX10_layLiars_97 ?_
  refine lv_iload_n hx hb dX10_layLiars_100 rfl (lv_at hl 0 rfl) ?_
  refine lv_aload_n hx hb dX10_layLiars_101 rfl (lv_at hl 2 rfl) ?_
  refine k_get hC hK hP iX10 6 61 wf_X10_218 rfl (by decide) rfl rfl dX10_layLiars_102 ?_
  refine lv_iload_n hx hb dX10_layLiars_105 rfl (lv_at hl 0 rfl) ?_
  refine k_zald (v := 0) hC hK hP 0 29 rfl (by decide +kernel) (by decide) (by decide +kernel) dX10_layLiars_106 ?_
  refine lv_if_eq (tgt := 125) hx hb dX10_layLiars_107 (by decide) (fun _ => ?_) (fun c_ => absurd (by decide +kernel) c_)
  refine lv_iconst (v := 0) hx hb dX10_layLiars_125 (by decide) ?_
  refine k_zastS hC hK hP hD hS 0 29 rfl (by decide +kernel) (by decide) (by decide +kernel) dX10_layLiars_126 (fun H locs hP hD hS => ?_)
  refine lv_iinc (v := 30) (lv' := [(1, .int 30), (2, .int 0), (0, .ref a0)]) hx hb dX10_layLiars_127 hl (k := 0) rfl (by decide +kernel) (by decide) rfl (fun ls hl => ?_)
  refine lv_goto (tgt := 90) hx hb dX10_layLiars_130 (by decide) ?_
  refine lv_iload_n hx hb dX10_layLiars_90 rfl (lv_at hl 0 rfl) ?_
  refine lv_bipush (v := 64) hx hb dX10_layLiars_91 (by decide) ?_
  refine lv_icmp_ge (tgt := 133) hx hb dX10_layLiars_93 (by decide) (fun c_ => absurd c_ (by decide +kernel)) (fun _ => ?_)
  refine lv_aload_n hx hb dX10_layLiars_96 rfl (lv_at hl 2 rfl) ?_
  refine k_get hC hK hP iX10 6 61 wf_X10_218 rfl (by decide) rfl rfl dX10_layLiars_97 ?_
  refine lv_iload_n hx hb dX10_layLiars_100 rfl (lv_at hl 0 rfl) ?_
  refine lv_aload_n hx hb dX10_layLiars_101 rfl (lv_at hl 2 rfl) ?_
  refine k_get hC hK hP iX10 6 61 wf_X10_218 rfl (by decide) rfl rfl dX10_layLiars_102 ?_
  refine lv_iload_n hx hb dX10_layLiars_105 rfl (lv_at hl 0 rfl) ?_
  refine k_zald (v := 0) hC hK hP 0 30 rfl (by decide +kernel) (by decide) (by decide +kernel) dX10_layLiars_106 ?_
  refine lv_if_eq (tgt := 125) hx hb dX10_layLiars_107 (by decide) (fun _ => ?_) (fun c_ => absurd (by decide +kernel) c_)
  refine lv_iconst (v := 0) hx hb dX10_layLiars_125 (by decide) ?_
  refine k_zastS hC hK hP hD hS 0 30 rfl (by decide +kernel) (by decide) (by decide +kernel) dX10_layLiars_126 (fun H locs hP hD hS => ?_)
  refine lv_iinc (v := 31) (lv' := [(1, .int 31), (2, .int 0), (0, .ref a0)]) hx hb dX10_layLiars_127 hl (k := 0) rfl (by decide +kernel) (by decide) rfl (fun ls hl => ?_)
  refine lv_goto (tgt := 90) hx hb dX10_layLiars_130 (by decide) ?_
  refine lv_iload_n hx hb dX10_layLiars_90 rfl (lv_at hl 0 rfl) ?_
  refine lv_bipush (v := 64) hx hb dX10_layLiars_91 (by decide) ?_
  refine lv_icmp_ge (tgt := 133) hx hb dX10_layLiars_93 (by decide) (fun c_ => absurd c_ (by decide +kernel)) (fun _ => ?_)
  refine lv_aload_n hx hb dX10_layLiars_96 rfl (lv_at hl 2 rfl) ?_
  refine k_get hC hK hP iX10 6 61 wf_X10_218 rfl (by decide) rfl rfl dX10_layLiars_97 ?_
  refine lv_iload_n hx hb dX10_layLiars_100 rfl (lv_at hl 0 rfl) ?_
  refine lv_aload_n hx hb dX10_layLiars_101 rfl (lv_at hl 2 rfl) ?_
  refine k_get hC hK hP iX10 6 61 wf_X10_218 rfl (by decide) rfl rfl dX10_layLiars_102 ?_
  refine lv_iload_n hx hb dX10_layLiars_105 rfl (lv_at hl 0 rfl) ?_
  refine k_zald (v := 0) hC hK hP 0 31 rfl (by decide +kernel) (by decide) (by decide +kernel) dX10_layLiars_106 ?_
  refine lv_if_eq (tgt := 125) hx hb dX10_layLiars_107 (by decide) (fun _ => ?_) (fun c_ => absurd (by decide +kernel) c_)
  refine lv_iconst (v := 0) hx hb dX10_layLiars_125 (by decide) ?_
  refine k_zastS hC hK hP hD hS 0 31 rfl (by decide +kernel) (by decide) (by decide +kernel) dX10_layLiars_126 (fun H locs hP hD hS => ?_)
  refine lv_iinc (v := 32) (lv' := [(1, .int 32), (2, .int 0), (0, .ref a0)]) hx hb dX10_layLiars_127 hl (k := 0) rfl (by decide +kernel) (by decide) rfl (fun ls hl => ?_)
  refine lv_goto (tgt := 90) hx hb dX10_layLiars_130 (by decide) ?_
  refine lv_iload_n hx hb dX10_layLiars_90 rfl (lv_at hl 0 rfl) ?_
  refine lv_bipush (v := 64) hx hb dX10_layLiars_91 (by decide) ?_
  refine lv_icmp_ge (tgt := 133) hx hb dX10_layLiars_93 (by decide) (fun c_ => absurd c_ (by decide +kernel)) (fun _ => ?_)
  refine lv_aload_n hx hb dX10_layLiars_96 rfl (lv_at hl 2 rfl) ?_
  refine k_get hC hK hP iX10 6 61 wf_X10_218 rfl (by decide) rfl rfl dX10_layLiars_97 ?_
  refine lv_iload_n hx hb dX10_layLiars_100 rfl (lv_at hl 0 rfl) ?_
  refine lv_aload_n hx hb dX10_layLiars_101 rfl (lv_at hl 2 rfl) ?_
  refine k_get hC hK hP iX10 6 61 wf_X10_218 rfl (by decide) rfl rfl dX10_layLiars_102 ?_
  refine lv_iload_n hx hb dX10_layLiars_105 rfl (lv_at hl 0 rfl) ?_
  refine k_zald (v := 0) hC hK hP 0 32 rfl (by decide +kernel) (by decide) (by decide +kernel) dX10_layLiars_106 ?_
  refine lv_if_eq (tgt := 125) hx hb dX10_layLiars_107 (by decide) (fun _ => ?_) (fun c_ => absurd (by decide +kernel) c_)
  refine lv_iconst (v := 0) hx hb dX10_layLiars_125 (by decide) ?_
  refine k_zastS hC hK hP hD hS 0 32 rfl (by decide +kernel) (by decide) (by decide +kernel) dX10_layLiars_126 (fun H locs hP hD hS => ?_)
  refine lv_iinc (v := 33) (lv' := [(1, .int 33), (2, .int 0), (0, .ref a0)]) hx hb dX10_layLiars_127 hl (k := 0) rfl (by decide +kernel) (by decide) rfl (fun ls hl => ?_)
  refine lv_goto (tgt := 90) hx hb dX10_layLiars_130 (by decide) ?_
  refine lv_iload_n hx hb dX10_layLiars_90 rfl (lv_at hl 0 rfl) ?_
  refine lv_bipush (v := 64) hx hb dX10_layLiars_91 (by decide) ?_
  refine lv_icmp_ge (tgt := 133) hx hb dX10_layLiars_93 (by decide) (fun c_ => absurd c_ (by decide +kernel)) (fun _ => ?_)
  refine lv_aload_n hx hb dX10_layLiars_96 rfl (lv_at hl 2 rfl) ?_
  refine k_get hC hK hP iX10 6 61 wf_X10_218 rfl (by decide) rfl rfl dX10_layLiars_97 ?_
  refine lv_iload_n hx hb dX10_layLiars_100 rfl (lv_at hl 0 rfl) ?_
  refine lv_aload_n hx hb dX10_layLiars_101 rfl (lv_at hl 2 rfl) ?_
  refine k_get hC hK hP iX10 6 61 wf_X10_218 rfl (by decide) rfl rfl dX10_layLiars_102 ?_
  refine lv_iload_n hx hb dX10_layLiars_105 rfl (lv_at hl 0 rfl) ?_
  refine k_zald (v := 0) hC hK hP 0 33 rfl (by decide +kernel) (by decide) (by decide +kernel) dX10_layLiars_106 ?_
  refine lv_if_eq (tgt := 125) hx hb dX10_layLiars_107 (by decide) (fun _ => ?_) (fun c_ => absurd (by decide +kernel) c_)
  refine lv_iconst (v := 0) hx hb dX10_layLiars_125 (by decide) ?_
  refine k_zastS hC hK hP hD hS 0 33 rfl (by decide +kernel) (by decide) (by decide +kernel) dX10_layLiars_126 (fun H locs hP hD hS => ?_)
  refine lv_iinc (v := 34) (lv' := [(1, .int 34), (2, .int 0), (0, .ref a0)]) hx hb dX10_layLiars_127 hl (k := 0) rfl (by decide +kernel) (by decide) rfl (fun ls hl => ?_)
  refine lv_goto (tgt := 90) hx hb dX10_layLiars_130 (by decide) ?_
  refine lv_iload_n hx hb dX10_layLiars_90 rfl (lv_at hl 0 rfl) ?_
  refine lv_bipush (v := 64) hx hb dX10_layLiars_91 (by decide) ?_
  refine lv_icmp_ge (tgt := 133) hx hb dX10_layLiars_93 (by decide) (fun c_ => absurd c_ (by decide +kernel)) (fun _ => ?_)
  refine lv_aload_n hx hb dX10_layLiars_96 rfl (lv_at hl 2 rfl) ?_
  refine k_get hC hK hP iX10 6 61 wf_X10_218 rfl (by decide) rfl rfl dX10_layLiars_97 ?_
  refine lv_iload_n hx hb dX10_layLiars_100 rfl (lv_at hl 0 rfl) ?_
  refine lv_aload_n hx hb dX10_layLiars_101 rfl (lv_at hl 2 rfl) ?_
  refine k_get hC hK hP iX10 6 61 wf_X10_218 rfl (by decide) rfl rfl dX10_layLiars_102 ?_
  refine lv_iload_n hx hb dX10_layLiars_105 rfl (lv_at hl 0 rfl) ?_
  refine k_zald (v := 0) hC hK hP 0 34 rfl (by decide +kernel) (by decide) (by decide +kernel) dX10_layLiars_106 ?_
  refine lv_if_eq (tgt := 125) hx hb dX10_layLiars_107 (by decide) (fun _ => ?_) (fun c_ => absurd (by decide +kernel) c_)
  refine lv_iconst (v := 0) hx hb dX10_layLiars_125 (by decide) ?_
  refine k_zastS hC hK hP hD hS 0 34 rfl (by decide +kernel) (by decide) (by decide +kernel) dX10_layLiars_126 (fun H locs hP hD hS => ?_)
  refine lv_iinc (v := 35) (lv' := [(1, .int 35), (2, .int 0), (0, .ref a0)]) hx hb dX10_layLiars_127 hl (k := 0) rfl (by decide +kernel) (by decide) rfl (fun ls hl => ?_)
  refine lv_goto (tgt := 90) hx hb dX10_layLiars_130 (by decide) ?_
  refine lv_iload_n hx hb dX10_layLiars_90 rfl (lv_at hl 0 rfl) ?_
  refine lv_bipush (v := 64) hx hb dX10_layLiars_91 (by decide) ?_
  refine lv_icmp_ge (tgt := 133) hx hb dX10_layLiars_93 (by decide) (fun c_ => absurd c_ (by decide +kernel)) (fun _ => ?_)
  refine lv_aload_n hx hb dX10_layLiars_96 rfl (lv_at hl 2 rfl) ?_
  refine k_get hC hK hP iX10 6 61 wf_X10_218 rfl (by decide) rfl rfl dX10_layLiars_97 ?_
  refine lv_iload_n hx hb dX10_layLiars_100 rfl (lv_at hl 0 rfl) ?_
  refine lv_aload_n hx hb dX10_layLiars_101 rfl (lv_at hl 2 rfl) ?_
  refine k_get hC hK hP iX10 6 61 wf_X10_218 rfl (by decide) rfl rfl dX10_layLiars_102 ?_
  refine lv_iload_n hx hb dX10_layLiars_105 rfl (lv_at hl 0 rfl) ?_
  refine k_zald (v := 0) hC hK hP 0 35 rfl (by decide +kernel) (by decide) (by decide +kernel) dX10_layLiars_106 ?_
  refine lv_if_eq (tgt := 125) hx hb dX10_layLiars_107 (by decide) (fun _ => ?_) (fun c_ => absurd (by decide +kernel) c_)
  refine lv_iconst (v := 0) hx hb dX10_layLiars_125 (by decide) ?_
  refine k_zastS hC hK hP hD hS 0 35 rfl (by decide +kernel) (by decide) (by decide +kernel) dX10_layLiars_126 (fun H locs hP hD hS => ?_)
  refine lv_iinc (v := 36) (lv' := [(1, .int 36), (2, .int 0), (0, .ref a0)]) hx hb dX10_layLiars_127 hl (k := 0) rfl (by decide +kernel) (by decide) rfl (fun ls hl => ?_)
  refine lv_goto (tgt := 90) hx hb dX10_layLiars_130 (by decide) ?_
  refine lv_iload_n hx hb dX10_layLiars_90 rfl (lv_at hl 0 rfl) ?_
  refine lv_bipush (v := 64) hx hb dX10_layLiars_91 (by decide) ?_
  refine lv_icmp_ge (tgt := 133) hx hb dX10_layLiars_93 (by decide) (fun c_ => absurd c_ (by decide +kernel)) (fun _ => ?_)
  refine lv_aload_n hx hb dX10_layLiars_96 rfl (lv_at hl 2 rfl) ?_
  refine k_get hC hK hP iX10 6 61 wf_X10_218 rfl (by decide) rfl rfl dX10_layLiars_97 ?_
  refine lv_iload_n hx hb dX10_layLiars_100 rfl (lv_at hl 0 rfl) ?_
  refine lv_aload_n hx hb dX10_layLiars_101 rfl (lv_at hl 2 rfl) ?_
  refine k_get hC hK hP iX10 6 61 wf_X10_218 rfl (by decide) rfl rfl dX10_layLiars_102 ?_
  refine lv_iload_n hx hb dX10_layLiars_105 rfl (lv_at hl 0 rfl) ?_
  refine k_zald (v := 0) hC hK hP 0 36 rfl (by decide +kernel) (by decide) (by decide +kernel) dX10_layLiars_106 ?_
  refine lv_if_eq (tgt := 125) hx hb dX10_layLiars_107 (by decide) (fun _ => ?_) (fun c_ => absurd (by decide +kernel) c_)
  refine lv_iconst (v := 0) hx hb dX10_layLiars_125 (by decide) ?_
  refine k_zastS hC hK hP hD hS 0 36 rfl (by decide +kernel) (by decide) (by decide +kernel) dX10_layLiars_126 (fun H locs hP hD hS => ?_)
  refine lv_iinc (v := 37) (lv' := [(1, .int 37), (2, .int 0), (0, .ref a0)]) hx hb dX10_layLiars_127 hl (k := 0) rfl (by decide +kernel) (by decide) rfl (fun ls hl => ?_)
  refine lv_goto (tgt := 90) hx hb dX10_layLiars_130 (by decide) ?_
  refine lv_iload_n hx hb dX10_layLiars_90 rfl (lv_at hl 0 rfl) ?_
  refine lv_bipush (v := 64) hx hb dX10_layLiars_91 (by decide) ?_
  refine lv_icmp_ge (tgt := 133) hx hb dX10_layLiars_93 (by decide) (fun c_ => absurd c_ (by decide +kernel)) (fun _ => ?_)
  refine lv_aload_n hx hb dX10_layLiars_96 rfl (lv_at hl 2 rfl) ?_
  refine k_get hC hK hP iX10 6 61 wf_X10_218 rfl (by decide) rfl rfl dX10_layLiars_97 ?_
  refine lv_iload_n hx hb dX10_layLiars_100 rfl (lv_at hl 0 rfl) ?_
  refine lv_aload_n hx hb dX10_layLiars_101 rfl (lv_at hl 2 rfl) ?_
  refine k_get hC hK hP iX10 6 61 wf_X10_218 rfl (by decide) rfl rfl dX10_layLiars_102 ?_
  refine lv_iload_n hx hb dX10_layLiars_105 rfl (lv_at hl 0 rfl) ?_
  refine k_zald (v := 0) hC hK hP 0 37 rfl (by decide +kernel) (by decide) (by decide +kernel) dX10_layLiars_106 ?_
  refine lv_if_eq (tgt := 125) hx hb dX10_layLiars_107 (by decide) (fun _ => ?_) (fun c_ => absurd (by decide +kernel) c_)
  refine lv_iconst (v := 0) hx hb dX10_layLiars_125 (by decide) ?_
  refine k_zastS hC hK hP hD hS 0 37 rfl (by decide +kernel) (by decide) (by decide +kernel) dX10_layLiars_126 (fun H locs hP hD hS => ?_)
  refine lv_iinc (v := 38) (lv' := [(1, .int 38), (2, .int 0), (0, .ref a0)]) hx hb dX10_layLiars_127 hl (k := 0) rfl (by decide +kernel) (by decide) rfl (fun ls hl => ?_)
  refine lv_goto (tgt := 90) hx hb dX10_layLiars_130 (by decide) ?_
  refine lv_iload_n hx hb dX10_layLiars_90 rfl (lv_at hl 0 rfl) ?_
  refine lv_bipush (v := 64) hx hb dX10_layLiars_91 (by decide) ?_
  refine lv_icmp_ge (tgt := 133) hx hb dX10_layLiars_93 (by decide) (fun c_ => absurd c_ (by decide +kernel)) (fun _ => ?_)
  refine lv_aload_n hx hb dX10_layLiars_96 rfl (lv_at hl 2 rfl) ?_
  refine k_get hC hK hP iX10 6 61 wf_X10_218 rfl (by decide) rfl rfl dX10_layLiars_97 ?_
  refine lv_iload_n hx hb dX10_layLiars_100 rfl (lv_at hl 0 rfl) ?_
  refine lv_aload_n hx hb dX10_layLiars_101 rfl (lv_at hl 2 rfl) ?_
  refine k_get hC hK hP iX10 6 61 wf_X10_218 rfl (by decide) rfl rfl dX10_layLiars_102 ?_
  refine lv_iload_n hx hb dX10_layLiars_105 rfl (lv_at hl 0 rfl) ?_
  refine k_zald (v := 0) hC hK hP 0 38 rfl (by decide +kernel) (by decide) (by decide +kernel) dX10_layLiars_106 ?_
  refine lv_if_eq (tgt := 125) hx hb dX10_layLiars_107 (by decide) (fun _ => ?_) (fun c_ => absurd (by decide +kernel) c_)
  refine lv_iconst (v := 0) hx hb dX10_layLiars_125 (by decide) ?_
  refine k_zastS hC hK hP hD hS 0 38 rfl (by decide +kernel) (by decide) (by decide +kernel) dX10_layLiars_126 (fun H locs hP hD hS => ?_)
  refine lv_iinc (v := 39) (lv' := [(1, .int 39), (2, .int 0), (0, .ref a0)]) hx hb dX10_layLiars_127 hl (k := 0) rfl (by decide +kernel) (by decide) rfl (fun ls hl => ?_)
  refine lv_goto (tgt := 90) hx hb dX10_layLiars_130 (by decide) ?_
  refine lv_iload_n hx hb dX10_layLiars_90 rfl (lv_at hl 0 rfl) ?_
  refine lv_bipush (v := 64) hx hb dX10_layLiars_91 (by decide) ?_
  refine lv_icmp_ge (tgt := 133) hx hb dX10_layLiars_93 (by decide) (fun c_ => absurd c_ (by decide +kernel)) (fun _ => ?_)
  refine lv_aload_n hx hb dX10_layLiars_96 rfl (lv_at hl 2 rfl) ?_
  refine k_get hC hK hP iX10 6 61 wf_X10_218 rfl (by decide) rfl rfl dX10_layLiars_97 ?_
  refine lv_iload_n hx hb dX10_layLiars_100 rfl (lv_at hl 0 rfl) ?_
  refine lv_aload_n hx hb dX10_layLiars_101 rfl (lv_at hl 2 rfl) ?_
  refine k_get hC hK hP iX10 6 61 wf_X10_218 rfl (by decide) rfl rfl dX10_layLiars_102 ?_
  refine lv_iload_n hx hb dX10_layLiars_105 rfl (lv_at hl 0 rfl) ?_
  refine k_zald (v := 0) hC hK hP 0 39 rfl (by decide +kernel) (by decide) (by decide +kernel) dX10_layLiars_106 ?_
  refine lv_if_eq (tgt := 125) hx hb dX10_layLiars_107 (by decide) (fun _ => ?_) (fun c_ => absurd (by decide +kernel) c_)
  refine lv_iconst (v := 0) hx hb dX10_layLiars_125 (by decide) ?_
  refine k_zastS hC hK hP hD hS 0 39 rfl (by decide +kernel) (by decide) (by decide +kernel) dX10_layLiars_126 (fun H locs hP hD hS => ?_)
  refine lv_iinc (v := 40) (lv' := [(1, .int 40), (2, .int 0), (0, .ref a0)]) hx hb dX10_layLiars_127 hl (k := 0) rfl (by decide +kernel) (by decide) rfl (fun ls hl => ?_)
  refine lv_goto (tgt := 90) hx hb dX10_layLiars_130 (by decide) ?_
  refine lv_iload_n hx hb dX10_layLiars_90 rfl (lv_at hl 0 rfl) ?_
  refine lv_bipush (v := 64) hx hb dX10_layLiars_91 (by decide) ?_
  refine lv_icmp_ge (tgt := 133) hx hb dX10_layLiars_93 (by decide) (fun c_ => absurd c_ (by decide +kernel)) (fun _ => ?_)
  refine lv_aload_n hx hb dX10_layLiars_96 rfl (lv_at hl 2 rfl) ?_
  refine k_get hC hK hP iX10 6 61 wf_X10_218 rfl (by decide) rfl rfl dX10_layLiars_97 ?_
  refine lv_iload_n hx hb dX10_layLiars_100 rfl (lv_at hl 0 rfl) ?_
  refine lv_aload_n hx hb dX10_layLiars_101 rfl (lv_at hl 2 rfl) ?_
  refine k_get hC hK hP iX10 6 61 wf_X10_218 rfl (by decide) rfl rfl dX10_layLiars_102 ?_
  refine lv_iload_n hx hb dX10_layLiars_105 rfl (lv_at hl 0 rfl) ?_
  refine k_zald (v := 0) hC hK hP 0 40 rfl (by decide +kernel) (by decide) (by decide +kernel) dX10_layLiars_106 ?_
  refine lv_if_eq (tgt := 125) hx hb dX10_layLiars_107 (by decide) (fun _ => ?_) (fun c_ => absurd (by decide +kernel) c_)
  refine lv_iconst (v := 0) hx hb dX10_layLiars_125 (by decide) ?_
  refine k_zastS hC hK hP hD hS 0 40 rfl (by decide +kernel) (by decide) (by decide +kernel) dX10_layLiars_126 (fun H locs hP hD hS => ?_)
  refine lv_iinc (v := 41) (lv' := [(1, .int 41), (2, .int 0), (0, .ref a0)]) hx hb dX10_layLiars_127 hl (k := 0) rfl (by decide +kernel) (by decide) rfl (fun ls hl => ?_)
  refine lv_goto (tgt := 90) hx hb dX10_layLiars_130 (by decide) ?_
  refine lv_iload_n hx hb dX10_layLiars_90 rfl (lv_at hl 0 rfl) ?_
  refine lv_bipush (v := 64) hx hb dX10_layLiars_91 (by decide) ?_
  refine lv_icmp_ge (tgt := 133) hx hb dX10_layLiars_93 (by decide) (fun c_ => absurd c_ (by decide +kernel)) (fun _ => ?_)
  refine lv_aload_n hx hb dX10_layLiars_96 rfl (lv_at hl 2 rfl) ?_
  refine k_get hC hK hP iX10 6 61 wf_X10_218 rfl (by decide) rfl rfl dX10_layLiars_97 ?_
  refine lv_iload_n hx hb dX10_layLiars_100 rfl (lv_at hl 0 rfl) ?_
  refine lv_aload_n hx hb dX10_layLiars_101 rfl (lv_at hl 2 rfl) ?_
  refine k_get hC hK hP iX10 6 61 wf_X10_218 rfl (by decide) rfl rfl dX10_layLiars_102 ?_
  refine lv_iload_n hx hb dX10_layLiars_105 rfl (lv_at hl 0 rfl) ?_
  refine k_zald (v := 0) hC hK hP 0 41 rfl (by decide +kernel) (by decide) (by decide +kernel) dX10_layLiars_106 ?_
  refine lv_if_eq (tgt := 125) hx hb dX10_layLiars_107 (by decide) (fun _ => ?_) (fun c_ => absurd (by decide +kernel) c_)
  refine lv_iconst (v := 0) hx hb dX10_layLiars_125 (by decide) ?_
  refine k_zastS hC hK hP hD hS 0 41 rfl (by decide +kernel) (by decide) (by decide +kernel) dX10_layLiars_126 (fun H locs hP hD hS => ?_)
  refine lv_iinc (v := 42) (lv' := [(1, .int 42), (2, .int 0), (0, .ref a0)]) hx hb dX10_layLiars_127 hl (k := 0) rfl (by decide +kernel) (by decide) rfl (fun ls hl => ?_)
  refine lv_goto (tgt := 90) hx hb dX10_layLiars_130 (by decide) ?_
  refine lv_iload_n hx hb dX10_layLiars_90 rfl (lv_at hl 0 rfl) ?_
  refine lv_bipush (v := 64) hx hb dX10_layLiars_91 (by decide) ?_
  refine lv_icmp_ge (tgt := 133) hx hb dX10_layLiars_93 (by decide) (fun c_ => absurd c_ (by decide +kernel)) (fun _ => ?_)
  refine lv_aload_n hx hb dX10_layLiars_96 rfl (lv_at hl 2 rfl) ?_
  refine k_get hC hK hP iX10 6 61 wf_X10_218 rfl (by decide) rfl rfl dX10_layLiars_97 ?_
  refine lv_iload_n hx hb dX10_layLiars_100 rfl (lv_at hl 0 rfl) ?_
  refine lv_aload_n hx hb dX10_layLiars_101 rfl (lv_at hl 2 rfl) ?_
  refine k_get hC hK hP iX10 6 61 wf_X10_218 rfl (by decide) rfl rfl dX10_layLiars_102 ?_
  refine lv_iload_n hx hb dX10_layLiars_105 rfl (lv_at hl 0 rfl) ?_
  refine k_zald (v := 0) hC hK hP 0 42 rfl (by decide +kernel) (by decide) (by decide +kernel) dX10_layLiars_106 ?_
  refine lv_if_eq (tgt := 125) hx hb dX10_layLiars_107 (by decide) (fun _ => ?_) (fun c_ => absurd (by decide +kernel) c_)
  refine lv_iconst (v := 0) hx hb dX10_layLiars_125 (by decide) ?_
  refine k_zastS hC hK hP hD hS 0 42 rfl (by decide +kernel) (by decide) (by decide +kernel) dX10_layLiars_126 (fun H locs hP hD hS => ?_)
  refine lv_iinc (v := 43) (lv' := [(1, .int 43), (2, .int 0), (0, .ref a0)]) hx hb dX10_layLiars_127 hl (k := 0) rfl (by decide +kernel) (by decide) rfl (fun ls hl => ?_)
  refine lv_goto (tgt := 90) hx hb dX10_layLiars_130 (by decide) ?_
  refine lv_iload_n hx hb dX10_layLiars_90 rfl (lv_at hl 0 rfl) ?_
  refine lv_bipush (v := 64) hx hb dX10_layLiars_91 (by decide) ?_
  refine lv_icmp_ge (tgt := 133) hx hb dX10_layLiars_93 (by decide) (fun c_ => absurd c_ (by decide +kernel)) (fun _ => ?_)
  refine lv_aload_n hx hb dX10_layLiars_96 rfl (lv_at hl 2 rfl) ?_
  refine k_get hC hK hP iX10 6 61 wf_X10_218 rfl (by decide) rfl rfl dX10_layLiars_97 ?_
  refine lv_iload_n hx hb dX10_layLiars_100 rfl (lv_at hl 0 rfl) ?_
  refine lv_aload_n hx hb dX10_layLiars_101 rfl (lv_at hl 2 rfl) ?_
  refine k_get hC hK hP iX10 6 61 wf_X10_218 rfl (by decide) rfl rfl dX10_layLiars_102 ?_
  refine lv_iload_n hx hb dX10_layLiars_105 rfl (lv_at hl 0 rfl) ?_
  refine k_zald (v := 0) hC hK hP 0 43 rfl (by decide +kernel) (by decide) (by decide +kernel) dX10_layLiars_106 ?_
  refine lv_if_eq (tgt := 125) hx hb dX10_layLiars_107 (by decide) (fun _ => ?_) (fun c_ => absurd (by decide +kernel) c_)
  refine lv_iconst (v := 0) hx hb dX10_layLiars_125 (by decide) ?_
  refine k_zastS hC hK hP hD hS 0 43 rfl (by decide +kernel) (by decide) (by decide +kernel) dX10_layLiars_126 (fun H locs hP hD hS => ?_)
  refine lv_iinc (v := 44) (lv' := [(1, .int 44), (2, .int 0), (0, .ref a0)]) hx hb dX10_layLiars_127 hl (k := 0) rfl (by decide +kernel) (by decide) rfl (fun ls hl => ?_)
  refine lv_goto (tgt := 90) hx hb dX10_layLiars_130 (by decide) ?_
  refine lv_iload_n hx hb dX10_layLiars_90 rfl (lv_at hl 0 rfl) ?_
  refine lv_bipush (v := 64) hx hb dX10_layLiars_91 (by decide) ?_
  refine lv_icmp_ge (tgt := 133) hx hb dX10_layLiars_93 (by decide) (fun c_ => absurd c_ (by decide +kernel)) (fun _ => ?_)
  refine lv_aload_n hx hb dX10_layLiars_96 rfl (lv_at hl 2 rfl) ?_
  refine k_get hC hK hP iX10 6 61 wf_X10_218 rfl (by decide) rfl rfl dX10_layLiars_97 ?_
  refine lv_iload_n hx hb dX10_layLiars_100 rfl (lv_at hl 0 rfl) ?_
  refine lv_aload_n hx hb dX10_layLiars_101 rfl (lv_at hl 2 rfl) ?_
  refine k_get hC hK hP iX10 6 61 wf_X10_218 rfl (by decide) rfl rfl dX10_layLiars_102 ?_
  refine lv_iload_n hx hb dX10_layLiars_105 rfl (lv_at hl 0 rfl) ?_
  refine k_zald (v := 0) hC hK hP 0 44 rfl (by decide +kernel) (by decide) (by decide +kernel) dX10_layLiars_106 ?_
  refine lv_if_eq (tgt := 125) hx hb dX10_layLiars_107 (by decide) (fun _ => ?_) (fun c_ => absurd (by decide +kernel) c_)
  refine lv_iconst (v := 0) hx hb dX10_layLiars_125 (by decide) ?_
  refine k_zastS hC hK hP hD hS 0 44 rfl (by decide +kernel) (by decide) (by decide +kernel) dX10_layLiars_126 (fun H locs hP hD hS => ?_)
  refine lv_iinc (v := 45) (lv' := [(1, .int 45), (2, .int 0), (0, .ref a0)]) hx hb dX10_layLiars_127 hl (k := 0) rfl (by decide +kernel) (by decide) rfl (fun ls hl => ?_)
  refine lv_goto (tgt := 90) hx hb dX10_layLiars_130 (by decide) ?_
  refine lv_iload_n hx hb dX10_layLiars_90 rfl (lv_at hl 0 rfl) ?_
  refine lv_bipush (v := 64) hx hb dX10_layLiars_91 (by decide) ?_
  refine lv_icmp_ge (tgt := 133) hx hb dX10_layLiars_93 (by decide) (fun c_ => absurd c_ (by decide +kernel)) (fun _ => ?_)
  refine lv_aload_n hx hb dX10_layLiars_96 rfl (lv_at hl 2 rfl) ?_
  refine k_get hC hK hP iX10 6 61 wf_X10_218 rfl (by decide) rfl rfl dX10_layLiars_97 ?_
  refine lv_iload_n hx hb dX10_layLiars_100 rfl (lv_at hl 0 rfl) ?_
  refine lv_aload_n hx hb dX10_layLiars_101 rfl (lv_at hl 2 rfl) ?_
  refine k_get hC hK hP iX10 6 61 wf_X10_218 rfl (by decide) rfl rfl dX10_layLiars_102 ?_
  refine lv_iload_n hx hb dX10_layLiars_105 rfl (lv_at hl 0 rfl) ?_
  refine k_zald (v := 0) hC hK hP 0 45 rfl (by decide +kernel) (by decide) (by decide +kernel) dX10_layLiars_106 ?_
  refine lv_if_eq (tgt := 125) hx hb dX10_layLiars_107 (by decide) (fun _ => ?_) (fun c_ => absurd (by decide +kernel) c_)
  refine lv_iconst (v := 0) hx hb dX10_layLiars_125 (by decide) ?_
  refine k_zastS hC hK hP hD hS 0 45 rfl (by decide +kernel) (by decide) (by decide +kernel) dX10_layLiars_126 (fun H locs hP hD hS => ?_)
  refine lv_iinc (v := 46) (lv' := [(1, .int 46), (2, .int 0), (0, .ref a0)]) hx hb dX10_layLiars_127 hl (k := 0) rfl (by decide +kernel) (by decide) rfl (fun ls hl => ?_)
  refine lv_goto (tgt := 90) hx hb dX10_layLiars_130 (by decide) ?_
  refine lv_iload_n hx hb dX10_layLiars_90 rfl (lv_at hl 0 rfl) ?_
  refine lv_bipush (v := 64) hx hb dX10_layLiars_91 (by decide) ?_
  refine lv_icmp_ge (tgt := 133) hx hb dX10_layLiars_93 (by decide) (fun c_ => absurd c_ (by decide +kernel)) (fun _ => ?_)
  refine lv_aload_n hx hb dX10_layLiars_96 rfl (lv_at hl 2 rfl) ?_
  refine k_get hC hK hP iX10 6 61 wf_X10_218 rfl (by decide) rfl rfl dX10_layLiars_97 ?_
  refine lv_iload_n hx hb dX10_layLiars_100 rfl (lv_at hl 0 rfl) ?_
  refine lv_aload_n hx hb dX10_layLiars_101 rfl (lv_at hl 2 rfl) ?_
  refine k_get hC hK hP iX10 6 61 wf_X10_218 rfl (by decide) rfl rfl dX10_layLiars_102 ?_
  refine lv_iload_n hx hb dX10_layLiars_105 rfl (lv_at hl 0 rfl) ?_
  refine k_zald (v := 0) hC hK hP 0 46 rfl (by decide +kernel) (by decide) (by decide +kernel) dX10_layLiars_106 ?_
  refine lv_if_eq (tgt := 125) hx hb dX10_layLiars_107 (by decide) (fun _ => ?_) (fun c_ => absurd (by decide +kernel) c_)
  refine lv_iconst (v := 0) hx hb dX10_layLiars_125 (by decide) ?_
  refine k_zastS hC hK hP hD hS 0 46 rfl (by decide +kernel) (by decide) (by decide +kernel) dX10_layLiars_126 (fun H locs hP hD hS => ?_)
  refine lv_iinc (v := 47) (lv' := [(1, .int 47), (2, .int 0), (0, .ref a0)]) hx hb dX10_layLiars_127 hl (k := 0) rfl (by decide +kernel) (by decide) rfl (fun ls hl => ?_)
  refine lv_goto (tgt := 90) hx hb dX10_layLiars_130 (by decide) ?_
  refine lv_iload_n hx hb dX10_layLiars_90 rfl (lv_at hl 0 rfl) ?_
  refine lv_bipush (v := 64) hx hb dX10_layLiars_91 (by decide) ?_
  refine lv_icmp_ge (tgt := 133) hx hb dX10_layLiars_93 (by decide) (fun c_ => absurd c_ (by decide +kernel)) (fun _ => ?_)
  refine lv_aload_n hx hb dX10_layLiars_96 rfl (lv_at hl 2 rfl) ?_
  refine k_get hC hK hP iX10 6 61 wf_X10_218 rfl (by decide) rfl rfl dX10_layLiars_97 ?_
  refine lv_iload_n hx hb dX10_layLiars_100 rfl (lv_at hl 0 rfl) ?_
  refine lv_aload_n hx hb dX10_layLiars_101 rfl (lv_at hl 2 rfl) ?_
  refine k_get hC hK hP iX10 6 61 wf_X10_218 rfl (by decide) rfl rfl dX10_layLiars_102 ?_
  refine lv_iload_n hx hb dX10_layLiars_105 rfl (lv_at hl 0 rfl) ?_
  refine k_zald (v := 0) hC hK hP 0 47 rfl (by decide +kernel) (by decide) (by decide +kernel) dX10_layLiars_106 ?_
  refine lv_if_eq (tgt := 125) hx hb dX10_layLiars_107 (by decide) (fun _ => ?_) (fun c_ => absurd (by decide +kernel) c_)
  refine lv_iconst (v := 0) hx hb dX10_layLiars_125 (by decide) ?_
  refine k_zastS hC hK hP hD hS 0 47 rfl (by decide +kernel) (by decide) (by decide +kernel) dX10_layLiars_126 (fun H locs hP hD hS => ?_)
  refine lv_iinc (v := 48) (lv' := [(1, .int 48), (2, .int 0), (0, .ref a0)]) hx hb dX10_layLiars_127 hl (k := 0) rfl (by decide +kernel) (by decide) rfl (fun ls hl => ?_)
  refine lv_goto (tgt := 90) hx hb dX10_layLiars_130 (by decide) ?_
  refine lv_iload_n hx hb dX10_layLiars_90 rfl (lv_at hl 0 rfl) ?_
  refine lv_bipush (v := 64) hx hb dX10_layLiars_91 (by decide) ?_
  refine lv_icmp_ge (tgt := 133) hx hb dX10_layLiars_93 (by decide) (fun c_ => absurd c_ (by decide +kernel)) (fun _ => ?_)
  refine lv_aload_n hx hb dX10_layLiars_96 rfl (lv_at hl 2 rfl) ?_
  refine k_get hC hK hP iX10 6 61 wf_X10_218 rfl (by decide) rfl rfl dX10_layLiars_97 ?_
  refine lv_iload_n hx hb dX10_layLiars_100 rfl (lv_at hl 0 rfl) ?_
  refine lv_aload_n hx hb dX10_layLiars_101 rfl (lv_at hl 2 rfl) ?_
  refine k_get hC hK hP iX10 6 61 wf_X10_218 rfl (by decide) rfl rfl dX10_layLiars_102 ?_
  refine lv_iload_n hx hb dX10_layLiars_105 rfl (lv_at hl 0 rfl) ?_
  refine k_zald (v := 0) hC hK hP 0 48 rfl (by decide +kernel) (by decide) (by decide +kernel) dX10_layLiars_106 ?_
  refine lv_if_eq (tgt := 125) hx hb dX10_layLiars_107 (by decide) (fun _ => ?_) (fun c_ => absurd (by decide +kernel) c_)
  refine lv_iconst (v := 0) hx hb dX10_layLiars_125 (by decide) ?_
  refine k_zastS hC hK hP hD hS 0 48 rfl (by decide +kernel) (by decide) (by decide +kernel) dX10_layLiars_126 (fun H locs hP hD hS => ?_)
  refine lv_iinc (v := 49) (lv' := [(1, .int 49), (2, .int 0), (0, .ref a0)]) hx hb dX10_layLiars_127 hl (k := 0) rfl (by decide +kernel) (by decide) rfl (fun ls hl => ?_)
  refine lv_goto (tgt := 90) hx hb dX10_layLiars_130 (by decide) ?_
  refine lv_iload_n hx hb dX10_layLiars_90 rfl (lv_at hl 0 rfl) ?_
  refine lv_bipush (v := 64) hx hb dX10_layLiars_91 (by decide) ?_
  refine lv_icmp_ge (tgt := 133) hx hb dX10_layLiars_93 (by decide) (fun c_ => absurd c_ (by decide +kernel)) (fun _ => ?_)
  refine lv_aload_n hx hb dX10_layLiars_96 rfl (lv_at hl 2 rfl) ?_
  refine k_get hC hK hP iX10 6 61 wf_X10_218 rfl (by decide) rfl rfl dX10_layLiars_97 ?_
  refine lv_iload_n hx hb dX10_layLiars_100 rfl (lv_at hl 0 rfl) ?_
  refine lv_aload_n hx hb dX10_layLiars_101 rfl (lv_at hl 2 rfl) ?_
  refine k_get hC hK hP iX10 6 61 wf_X10_218 rfl (by decide) rfl rfl dX10_layLiars_102 ?_
  refine lv_iload_n hx hb dX10_layLiars_105 rfl (lv_at hl 0 rfl) ?_
  refine k_zald (v := 0) hC hK hP 0 49 rfl (by decide +kernel) (by decide) (by decide +kernel) dX10_layLiars_106 ?_
  refine lv_if_eq (tgt := 125) hx hb dX10_layLiars_107 (by decide) (fun _ => ?_) (fun c_ => absurd (by decide +kernel) c_)
  refine lv_iconst (v := 0) hx hb dX10_layLiars_125 (by decide) ?_
  refine k_zastS hC hK hP hD hS 0 49 rfl (by decide +kernel) (by decide) (by decide +kernel) dX10_layLiars_126 (fun H locs hP hD hS => ?_)
  refine lv_iinc (v := 50) (lv' := [(1, .int 50), (2, .int 0), (0, .ref a0)]) hx hb dX10_layLiars_127 hl (k := 0) rfl (by decide +kernel) (by decide) rfl (fun ls hl => ?_)
  refine lv_goto (tgt := 90) hx hb dX10_layLiars_130 (by decide) ?_
  refine lv_iload_n hx hb dX10_layLiars_90 rfl (lv_at hl 0 rfl) ?_
  refine lv_bipush (v := 64) hx hb dX10_layLiars_91 (by decide) ?_
  refine lv_icmp_ge (tgt := 133) hx hb dX10_layLiars_93 (by decide) (fun c_ => absurd c_ (by decide +kernel)) (fun _ => ?_)
  refine lv_aload_n hx hb dX10_layLiars_96 rfl (lv_at hl 2 rfl) ?_
  refine k_get hC hK hP iX10 6 61 wf_X10_218 rfl (by decide) rfl rfl dX10_layLiars_97 ?_
  refine lv_iload_n hx hb dX10_layLiars_100 rfl (lv_at hl 0 rfl) ?_
  refine lv_aload_n hx hb dX10_layLiars_101 rfl (lv_at hl 2 rfl) ?_
  refine k_get hC hK hP iX10 6 61 wf_X10_218 rfl (by decide) rfl rfl dX10_layLiars_102 ?_
  refine lv_iload_n hx hb dX10_layLiars_105 rfl (lv_at hl 0 rfl) ?_
  refine k_zald (v := 0) hC hK hP 0 50 rfl (by decide +kernel) (by decide) (by decide +kernel) dX10_layLiars_106 ?_
  refine lv_if_eq (tgt := 125) hx hb dX10_layLiars_107 (by decide) (fun _ => ?_) (fun c_ => absurd (by decide +kernel) c_)
  refine lv_iconst (v := 0) hx hb dX10_layLiars_125 (by decide) ?_
  refine k_zastS hC hK hP hD hS 0 50 rfl (by decide +kernel) (by decide) (by decide +kernel) dX10_layLiars_126 (fun H locs hP hD hS => ?_)
  refine lv_iinc (v := 51) (lv' := [(1, .int 51), (2, .int 0), (0, .ref a0)]) hx hb dX10_layLiars_127 hl (k := 0) rfl (by decide +kernel) (by decide) rfl (fun ls hl => ?_)
  refine lv_goto (tgt := 90) hx hb dX10_layLiars_130 (by decide) ?_
  refine lv_iload_n hx hb dX10_layLiars_90 rfl (lv_at hl 0 rfl) ?_
  refine lv_bipush (v := 64) hx hb dX10_layLiars_91 (by decide) ?_
  refine lv_icmp_ge (tgt := 133) hx hb dX10_layLiars_93 (by decide) (fun c_ => absurd c_ (by decide +kernel)) (fun _ => ?_)
  refine lv_aload_n hx hb dX10_layLiars_96 rfl (lv_at hl 2 rfl) ?_
  refine k_get hC hK hP iX10 6 61 wf_X10_218 rfl (by decide) rfl rfl dX10_layLiars_97 ?_
  refine lv_iload_n hx hb dX10_layLiars_100 rfl (lv_at hl 0 rfl) ?_
  refine lv_aload_n hx hb dX10_layLiars_101 rfl (lv_at hl 2 rfl) ?_
  refine k_get hC hK hP iX10 6 61 wf_X10_218 rfl (by decide) rfl rfl dX10_layLiars_102 ?_
  refine lv_iload_n hx hb dX10_layLiars_105 rfl (lv_at hl 0 rfl) ?_
  refine k_zald (v := 0) hC hK hP 0 51 rfl (by decide +kernel) (by decide) (by decide +kernel) dX10_layLiars_106 ?_
  refine lv_if_eq (tgt := 125) hx hb dX10_layLiars_107 (by decide) (fun _ => ?_) (fun c_ => absurd (by decide +kernel) c_)
  refine lv_iconst (v := 0) hx hb dX10_layLiars_125 (by decide) ?_
  refine k_zastS hC hK hP hD hS 0 51 rfl (by decide +kernel) (by decide) (by decide +kernel) dX10_layLiars_126 (fun H locs hP hD hS => ?_)
  refine lv_iinc (v := 52) (lv' := [(1, .int 52), (2, .int 0), (0, .ref a0)]) hx hb dX10_layLiars_127 hl (k := 0) rfl (by decide +kernel) (by decide) rfl (fun ls hl => ?_)
  refine lv_goto (tgt := 90) hx hb dX10_layLiars_130 (by decide) ?_
  refine lv_iload_n hx hb dX10_layLiars_90 rfl (lv_at hl 0 rfl) ?_
  refine lv_bipush (v := 64) hx hb dX10_layLiars_91 (by decide) ?_
  refine lv_icmp_ge (tgt := 133) hx hb dX10_layLiars_93 (by decide) (fun c_ => absurd c_ (by decide +kernel)) (fun _ => ?_)
  refine lv_aload_n hx hb dX10_layLiars_96 rfl (lv_at hl 2 rfl) ?_
  refine k_get hC hK hP iX10 6 61 wf_X10_218 rfl (by decide) rfl rfl dX10_layLiars_97 ?_
  refine lv_iload_n hx hb dX10_layLiars_100 rfl (lv_at hl 0 rfl) ?_
  refine lv_aload_n hx hb dX10_layLiars_101 rfl (lv_at hl 2 rfl) ?_
  refine k_get hC hK hP iX10 6 61 wf_X10_218 rfl (by decide) rfl rfl dX10_layLiars_102 ?_
  refine lv_iload_n hx hb dX10_layLiars_105 rfl (lv_at hl 0 rfl) ?_
  refine k_zald (v := 0) hC hK hP 0 52 rfl (by decide +kernel) (by decide) (by decide +kernel) dX10_layLiars_106 ?_
  refine lv_if_eq (tgt := 125) hx hb dX10_layLiars_107 (by decide) (fun _ => ?_) (fun c_ => absurd (by decide +kernel) c_)
  refine lv_iconst (v := 0) hx hb dX10_layLiars_125 (by decide) ?_
  refine k_zastS hC hK hP hD hS 0 52 rfl (by decide +kernel) (by decide) (by decide +kernel) dX10_layLiars_126 (fun H locs hP hD hS => ?_)
  refine lv_iinc (v := 53) (lv' := [(1, .int 53), (2, .int 0), (0, .ref a0)]) hx hb dX10_layLiars_127 hl (k := 0) rfl (by decide +kernel) (by decide) rfl (fun ls hl => ?_)
  refine lv_goto (tgt := 90) hx hb dX10_layLiars_130 (by decide) ?_
  refine lv_iload_n hx hb dX10_layLiars_90 rfl (lv_at hl 0 rfl) ?_
  refine lv_bipush (v := 64) hx hb dX10_layLiars_91 (by decide) ?_
  refine lv_icmp_ge (tgt := 133) hx hb dX10_layLiars_93 (by decide) (fun c_ => absurd c_ (by decide +kernel)) (fun _ => ?_)
  refine lv_aload_n hx hb dX10_layLiars_96 rfl (lv_at hl 2 rfl) ?_
  refine k_get hC hK hP iX10 6 61 wf_X10_218 rfl (by decide) rfl rfl dX10_layLiars_97 ?_
  refine lv_iload_n hx hb dX10_layLiars_100 rfl (lv_at hl 0 rfl) ?_
  refine lv_aload_n hx hb dX10_layLiars_101 rfl (lv_at hl 2 rfl) ?_
  refine k_get hC hK hP iX10 6 61 wf_X10_218 rfl (by decide) rfl rfl dX10_layLiars_102 ?_
  refine lv_iload_n hx hb dX10_layLiars_105 rfl (lv_at hl 0 rfl) ?_
  refine k_zald (v := 0) hC hK hP 0 53 rfl (by decide +kernel) (by decide) (by decide +kernel) dX10_layLiars_106 ?_
  refine lv_if_eq (tgt := 125) hx hb dX10_layLiars_107 (by decide) (fun _ => ?_) (fun c_ => absurd (by decide +kernel) c_)
  refine lv_iconst (v := 0) hx hb dX10_layLiars_125 (by decide) ?_
  refine k_zastS hC hK hP hD hS 0 53 rfl (by decide +kernel) (by decide) (by decide +kernel) dX10_layLiars_126 (fun H locs hP hD hS => ?_)
  refine lv_iinc (v := 54) (lv' := [(1, .int 54), (2, .int 0), (0, .ref a0)]) hx hb dX10_layLiars_127 hl (k := 0) rfl (by decide +kernel) (by decide) rfl (fun ls hl => ?_)
  refine lv_goto (tgt := 90) hx hb dX10_layLiars_130 (by decide) ?_
  refine lv_iload_n hx hb dX10_layLiars_90 rfl (lv_at hl 0 rfl) ?_
  refine lv_bipush (v := 64) hx hb dX10_layLiars_91 (by decide) ?_
  refine lv_icmp_ge (tgt := 133) hx hb dX10_layLiars_93 (by decide) (fun c_ => absurd c_ (by decide +kernel)) (fun _ => ?_)
  refine lv_aload_n hx hb dX10_layLiars_96 rfl (lv_at hl 2 rfl) ?_
  refine k_get hC hK hP iX10 6 61 wf_X10_218 rfl (by decide) rfl rfl dX10_layLiars_97 ?_
  refine lv_iload_n hx hb dX10_layLiars_100 rfl (lv_at hl 0 rfl) ?_
  refine lv_aload_n hx hb dX10_layLiars_101 rfl (lv_at hl 2 rfl) ?_
  refine k_get hC hK hP iX10 6 61 wf_X10_218 rfl (by decide) rfl rfl dX10_layLiars_102 ?_
  refine lv_iload_n hx hb dX10_layLiars_105 rfl (lv_at hl 0 rfl) ?_
  refine k_zald (v := 0) hC hK hP 0 54 rfl (by decide +kernel) (by decide) (by decide +kernel) dX10_layLiars_106 ?_
  refine lv_if_eq (tgt := 125) hx hb dX10_layLiars_107 (by decide) (fun _ => ?_) (fun c_ => absurd (by decide +kernel) c_)
  refine lv_iconst (v := 0) hx hb dX10_layLiars_125 (by decide) ?_
  refine k_zastS hC hK hP hD hS 0 54 rfl (by decide +kernel) (by decide) (by decide +kernel) dX10_layLiars_126 (fun H locs hP hD hS => ?_)
  refine lv_iinc (v := 55) (lv' := [(1, .int 55), (2, .int 0), (0, .ref a0)]) hx hb dX10_layLiars_127 hl (k := 0) rfl (by decide +kernel) (by decide) rfl (fun ls hl => ?_)
  refine lv_goto (tgt := 90) hx hb dX10_layLiars_130 (by decide) ?_
  refine lv_iload_n hx hb dX10_layLiars_90 rfl (lv_at hl 0 rfl) ?_
  refine lv_bipush (v := 64) hx hb dX10_layLiars_91 (by decide) ?_
  refine lv_icmp_ge (tgt := 133) hx hb dX10_layLiars_93 (by decide) (fun c_ => absurd c_ (by decide +kernel)) (fun _ => ?_)
  refine lv_aload_n hx hb dX10_layLiars_96 rfl (lv_at hl 2 rfl) ?_
  refine k_get hC hK hP iX10 6 61 wf_X10_218 rfl (by decide) rfl rfl dX10_layLiars_97 ?_
  refine lv_iload_n hx hb dX10_layLiars_100 rfl (lv_at hl 0 rfl) ?_
  refine lv_aload_n hx hb dX10_layLiars_101 rfl (lv_at hl 2 rfl) ?_
  refine k_get hC hK hP iX10 6 61 wf_X10_218 rfl (by decide) rfl rfl dX10_layLiars_102 ?_
  refine lv_iload_n hx hb dX10_layLiars_105 rfl (lv_at hl 0 rfl) ?_
  refine k_zald (v := 0) hC hK hP 0 55 rfl (by decide +kernel) (by decide) (by decide +kernel) dX10_layLiars_106 ?_
  refine lv_if_eq (tgt := 125) hx hb dX10_layLiars_107 (by decide) (fun _ => ?_) (fun c_ => absurd (by decide +kernel) c_)
  refine lv_iconst (v := 0) hx hb dX10_layLiars_125 (by decide) ?_
  refine k_zastS hC hK hP hD hS 0 55 rfl (by decide +kernel) (by decide) (by decide +kernel) dX10_layLiars_126 (fun H locs hP hD hS => ?_)
  refine lv_iinc (v := 56) (lv' := [(1, .int 56), (2, .int 0), (0, .ref a0)]) hx hb dX10_layLiars_127 hl (k := 0) rfl (by decide +kernel) (by decide) rfl (fun ls hl => ?_)
  refine lv_goto (tgt := 90) hx hb dX10_layLiars_130 (by decide) ?_
  refine lv_iload_n hx hb dX10_layLiars_90 rfl (lv_at hl 0 rfl) ?_
  refine lv_bipush (v := 64) hx hb dX10_layLiars_91 (by decide) ?_
  refine lv_icmp_ge (tgt := 133) hx hb dX10_layLiars_93 (by decide) (fun c_ => absurd c_ (by decide +kernel)) (fun _ => ?_)
  refine lv_aload_n hx hb dX10_layLiars_96 rfl (lv_at hl 2 rfl) ?_
  refine k_get hC hK hP iX10 6 61 wf_X10_218 rfl (by decide) rfl rfl dX10_layLiars_97 ?_
  refine lv_iload_n hx hb dX10_layLiars_100 rfl (lv_at hl 0 rfl) ?_
  refine lv_aload_n hx hb dX10_layLiars_101 rfl (lv_at hl 2 rfl) ?_
  refine k_get hC hK hP iX10 6 61 wf_X10_218 rfl (by decide) rfl rfl dX10_layLiars_102 ?_
  refine lv_iload_n hx hb dX10_layLiars_105 rfl (lv_at hl 0 rfl) ?_
  refine k_zald (v := 0) hC hK hP 0 56 rfl (by decide +kernel) (by decide) (by decide +kernel) dX10_layLiars_106 ?_
  refine lv_if_eq (tgt := 125) hx hb dX10_layLiars_107 (by decide) (fun _ => ?_) (fun c_ => absurd (by decide +kernel) c_)
  refine lv_iconst (v := 0) hx hb dX10_layLiars_125 (by decide) ?_
  refine k_zastS hC hK hP hD hS 0 56 rfl (by decide +kernel) (by decide) (by decide +kernel) dX10_layLiars_126 (fun H locs hP hD hS => ?_)
  refine lv_iinc (v := 57) (lv' := [(1, .int 57), (2, .int 0), (0, .ref a0)]) hx hb dX10_layLiars_127 hl (k := 0) rfl (by decide +kernel) (by decide) rfl (fun ls hl => ?_)
  refine lv_goto (tgt := 90) hx hb dX10_layLiars_130 (by decide) ?_
  refine lv_iload_n hx hb dX10_layLiars_90 rfl (lv_at hl 0 rfl) ?_
  refine lv_bipush (v := 64) hx hb dX10_layLiars_91 (by decide) ?_
  refine lv_icmp_ge (tgt := 133) hx hb dX10_layLiars_93 (by decide) (fun c_ => absurd c_ (by decide +kernel)) (fun _ => ?_)
  refine lv_aload_n hx hb dX10_layLiars_96 rfl (lv_at hl 2 rfl) ?_
  refine k_get hC hK hP iX10 6 61 wf_X10_218 rfl (by decide) rfl rfl dX10_layLiars_97 ?_
  refine lv_iload_n hx hb dX10_layLiars_100 rfl (lv_at hl 0 rfl) ?_
  refine lv_aload_n hx hb dX10_layLiars_101 rfl (lv_at hl 2 rfl) ?_
  refine k_get hC hK hP iX10 6 61 wf_X10_218 rfl (by decide) rfl rfl dX10_layLiars_102 ?_
  refine lv_iload_n hx hb dX10_layLiars_105 rfl (lv_at hl 0 rfl) ?_
  refine k_zald (v := 0) hC hK hP 0 57 rfl (by decide +kernel) (by decide) (by decide +kernel) dX10_layLiars_106 ?_
  refine lv_if_eq (tgt := 125) hx hb dX10_layLiars_107 (by decide) (fun _ => ?_) (fun c_ => absurd (by decide +kernel) c_)
  refine lv_iconst (v := 0) hx hb dX10_layLiars_125 (by decide) ?_
  refine k_zastS hC hK hP hD hS 0 57 rfl (by decide +kernel) (by decide) (by decide +kernel) dX10_layLiars_126 (fun H locs hP hD hS => ?_)
  refine lv_iinc (v := 58) (lv' := [(1, .int 58), (2, .int 0), (0, .ref a0)]) hx hb dX10_layLiars_127 hl (k := 0) rfl (by decide +kernel) (by decide) rfl (fun ls hl => ?_)
  refine lv_goto (tgt := 90) hx hb dX10_layLiars_130 (by decide) ?_
  refine lv_iload_n hx hb dX10_layLiars_90 rfl (lv_at hl 0 rfl) ?_
  refine lv_bipush (v := 64) hx hb dX10_layLiars_91 (by decide) ?_
  refine lv_icmp_ge (tgt := 133) hx hb dX10_layLiars_93 (by decide) (fun c_ => absurd c_ (by decide +kernel)) (fun _ => ?_)
  refine lv_aload_n hx hb dX10_layLiars_96 rfl (lv_at hl 2 rfl) ?_
  refine k_get hC hK hP iX10 6 61 wf_X10_218 rfl (by decide) rfl rfl dX10_layLiars_97 ?_
  refine lv_iload_n hx hb dX10_layLiars_100 rfl (lv_at hl 0 rfl) ?_
  refine lv_aload_n hx hb dX10_layLiars_101 rfl (lv_at hl 2 rfl) ?_
  refine k_get hC hK hP iX10 6 61 wf_X10_218 rfl (by decide) rfl rfl dX10_layLiars_102 ?_
  refine lv_iload_n hx hb dX10_layLiars_105 rfl (lv_at hl 0 rfl) ?_
  refine k_zald (v := 0) hC hK hP 0 58 rfl (by decide +kernel) (by decide) (by decide +kernel) dX10_layLiars_106 ?_
  refine lv_if_eq (tgt := 125) hx hb dX10_layLiars_107 (by decide) (fun _ => ?_) (fun c_ => absurd (by decide +kernel) c_)
  refine lv_iconst (v := 0) hx hb dX10_layLiars_125 (by decide) ?_
  refine k_zastS hC hK hP hD hS 0 58 rfl (by decide +kernel) (by decide) (by decide +kernel) dX10_layLiars_126 (fun H locs hP hD hS => ?_)
  refine lv_iinc (v := 59) (lv' := [(1, .int 59), (2, .int 0), (0, .ref a0)]) hx hb dX10_layLiars_127 hl (k := 0) rfl (by decide +kernel) (by decide) rfl (fun ls hl => ?_)
  refine lv_goto (tgt := 90) hx hb dX10_layLiars_130 (by decide) ?_
  refine lv_iload_n hx hb dX10_layLiars_90 rfl (lv_at hl 0 rfl) ?_
  refine lv_bipush (v := 64) hx hb dX10_layLiars_91 (by decide) ?_
  refine lv_icmp_ge (tgt := 133) hx hb dX10_layLiars_93 (by decide) (fun c_ => absurd c_ (by decide +kernel)) (fun _ => ?_)
  refine lv_aload_n hx hb dX10_layLiars_96 rfl (lv_at hl 2 rfl) ?_
  refine k_get hC hK hP iX10 6 61 wf_X10_218 rfl (by decide) rfl rfl dX10_layLiars_97 ?_
  refine lv_iload_n hx hb dX10_layLiars_100 rfl (lv_at hl 0 rfl) ?_
  refine lv_aload_n hx hb dX10_layLiars_101 rfl (lv_at hl 2 rfl) ?_
  refine k_get hC hK hP iX10 6 61 wf_X10_218 rfl (by decide) rfl rfl dX10_layLiars_102 ?_
  refine lv_iload_n hx hb dX10_layLiars_105 rfl (lv_at hl 0 rfl) ?_
  refine k_zald (v := 0) hC hK hP 0 59 rfl (by decide +kernel) (by decide) (by decide +kernel) dX10_layLiars_106 ?_
  refine lv_if_eq (tgt := 125) hx hb dX10_layLiars_107 (by decide) (fun _ => ?_) (fun c_ => absurd (by decide +kernel) c_)
  refine lv_iconst (v := 0) hx hb dX10_layLiars_125 (by decide) ?_
  refine k_zastS hC hK hP hD hS 0 59 rfl (by decide +kernel) (by decide) (by decide +kernel) dX10_layLiars_126 (fun H locs hP hD hS => ?_)
  refine lv_iinc (v := 60) (lv' := [(1, .int 60), (2, .int 0), (0, .ref a0)]) hx hb dX10_layLiars_127 hl (k := 0) rfl (by decide +kernel) (by decide) rfl (fun ls hl => ?_)
  refine lv_goto (tgt := 90) hx hb dX10_layLiars_130 (by decide) ?_
  refine lv_iload_n hx hb dX10_layLiars_90 rfl (lv_at hl 0 rfl) ?_
  refine lv_bipush (v := 64) hx hb dX10_layLiars_91 (by decide) ?_
  refine lv_icmp_ge (tgt := 133) hx hb dX10_layLiars_93 (by decide) (fun c_ => absurd c_ (by decide +kernel)) (fun _ => ?_)
  refine lv_aload_n hx hb dX10_layLiars_96 rfl (lv_at hl 2 rfl) ?_
  refine k_get hC hK hP iX10 6 61 wf_X10_218 rfl (by decide) rfl rfl dX10_layLiars_97 ?_
  refine lv_iload_n hx hb dX10_layLiars_100 rfl (lv_at hl 0 rfl) ?_
  refine lv_aload_n hx hb dX10_layLiars_101 rfl (lv_at hl 2 rfl) ?_
  refine k_get hC hK hP iX10 6 61 wf_X10_218 rfl (by decide) rfl rfl dX10_layLiars_102 ?_
  refine lv_iload_n hx hb dX10_layLiars_105 rfl (lv_at hl 0 rfl) ?_
  refine k_zald (v := 0) hC hK hP 0 60 rfl (by decide +kernel) (by decide) (by decide +kernel) dX10_layLiars_106 ?_
  refine lv_if_eq (tgt := 125) hx hb dX10_layLiars_107 (by decide) (fun _ => ?_) (fun c_ => absurd (by decide +kernel) c_)
  refine lv_iconst (v := 0) hx hb dX10_layLiars_125 (by decide) ?_
  refine k_zastS hC hK hP hD hS 0 60 rfl (by decide +kernel) (by decide) (by decide +kernel) dX10_layLiars_126 (fun H locs hP hD hS => ?_)
  refine lv_iinc (v := 61) (lv' := [(1, .int 61), (2, .int 0), (0, .ref a0)]) hx hb dX10_layLiars_127 hl (k := 0) rfl (by decide +kernel) (by decide) rfl (fun ls hl => ?_)
  refine lv_goto (tgt := 90) hx hb dX10_layLiars_130 (by decide) ?_
  refine lv_iload_n hx hb dX10_layLiars_90 rfl (lv_at hl 0 rfl) ?_
  refine lv_bipush (v := 64) hx hb dX10_layLiars_91 (by decide) ?_
  refine lv_icmp_ge (tgt := 133) hx hb dX10_layLiars_93 (by decide) (fun c_ => absurd c_ (by decide +kernel)) (fun _ => ?_)
  refine lv_aload_n hx hb dX10_layLiars_96 rfl (lv_at hl 2 rfl) ?_
  refine k_get hC hK hP iX10 6 61 wf_X10_218 rfl (by decide) rfl rfl dX10_layLiars_97 ?_
  refine lv_iload_n hx hb dX10_layLiars_100 rfl (lv_at hl 0 rfl) ?_
  refine lv_aload_n hx hb dX10_layLiars_101 rfl (lv_at hl 2 rfl) ?_
  refine k_get hC hK hP iX10 6 61 wf_X10_218 rfl (by decide) rfl rfl dX10_layLiars_102 ?_
  refine lv_iload_n hx hb dX10_layLiars_105 rfl (lv_at hl 0 rfl) ?_
  refine k_zald (v := 0) hC hK hP 0 61 rfl (by decide +kernel) (by decide) (by decide +kernel) dX10_layLiars_106 ?_
  refine lv_if_eq (tgt := 125) hx hb dX10_layLiars_107 (by decide) (fun _ => ?_) (fun c_ => absurd (by decide +kernel) c_)
  refine lv_iconst (v := 0) hx hb dX10_layLiars_125 (by decide) ?_
  refine k_zastS hC hK hP hD hS 0 61 rfl (by decide +kernel) (by decide) (by decide +kernel) dX10_layLiars_126 (fun H locs hP hD hS => ?_)
  refine lv_iinc (v := 62) (lv' := [(1, .int 62), (2, .int 0), (0, .ref a0)]) hx hb dX10_layLiars_127 hl (k := 0) rfl (by decide +kernel) (by decide) rfl (fun ls hl => ?_)
  refine lv_goto (tgt := 90) hx hb dX10_layLiars_130 (by decide) ?_
  refine lv_iload_n hx hb dX10_layLiars_90 rfl (lv_at hl 0 rfl) ?_
  refine lv_bipush (v := 64) hx hb dX10_layLiars_91 (by decide) ?_
  refine lv_icmp_ge (tgt := 133) hx hb dX10_layLiars_93 (by decide) (fun c_ => absurd c_ (by decide +kernel)) (fun _ => ?_)
  refine lv_aload_n hx hb dX10_layLiars_96 rfl (lv_at hl 2 rfl) ?_
  refine k_get hC hK hP iX10 6 61 wf_X10_218 rfl (by decide) rfl rfl dX10_layLiars_97 ?_
  refine lv_iload_n hx hb dX10_layLiars_100 rfl (lv_at hl 0 rfl) ?_
  refine lv_aload_n hx hb dX10_layLiars_101 rfl (lv_at hl 2 rfl) ?_
  refine k_get hC hK hP iX10 6 61 wf_X10_218 rfl (by decide) rfl rfl dX10_layLiars_102 ?_
  refine lv_iload_n hx hb dX10_layLiars_105 rfl (lv_at hl 0 rfl) ?_
  refine k_zald (v := 0) hC hK hP 0 62 rfl (by decide +kernel) (by decide) (by decide +kernel) dX10_layLiars_106 ?_
  refine lv_if_eq (tgt := 125) hx hb dX10_layLiars_107 (by decide) (fun _ => ?_) (fun c_ => absurd (by decide +kernel) c_)
  refine lv_iconst (v := 0) hx hb dX10_layLiars_125 (by decide) ?_
  refine k_zastS hC hK hP hD hS 0 62 rfl (by decide +kernel) (by decide) (by decide +kernel) dX10_layLiars_126 (fun H locs hP hD hS => ?_)
  refine lv_iinc (v := 63) (lv' := [(1, .int 63), (2, .int 0), (0, .ref a0)]) hx hb dX10_layLiars_127 hl (k := 0) rfl (by decide +kernel) (by decide) rfl (fun ls hl => ?_)
  refine lv_goto (tgt := 90) hx hb dX10_layLiars_130 (by decide) ?_
  refine lv_iload_n hx hb dX10_layLiars_90 rfl (lv_at hl 0 rfl) ?_
  refine lv_bipush (v := 64) hx hb dX10_layLiars_91 (by decide) ?_
  refine lv_icmp_ge (tgt := 133) hx hb dX10_layLiars_93 (by decide) (fun c_ => absurd c_ (by decide +kernel)) (fun _ => ?_)
  refine lv_aload_n hx hb dX10_layLiars_96 rfl (lv_at hl 2 rfl) ?_
  refine k_get hC hK hP iX10 6 61 wf_X10_218 rfl (by decide) rfl rfl dX10_layLiars_97 ?_
  refine lv_iload_n hx hb dX10_layLiars_100 rfl (lv_at hl 0 rfl) ?_
  refine lv_aload_n hx hb dX10_layLiars_101 rfl (lv_at hl 2 rfl) ?_
  refine k_get hC hK hP iX10 6 61 wf_X10_218 rfl (by decide) rfl rfl dX10_layLiars_102 ?_
  refine lv_iload_n hx hb dX10_layLiars_105 rfl (lv_at hl 0 rfl) ?_
  refine k_zald (v := 0) hC hK hP 0 63 rfl (by decide +kernel) (by decide) (by decide +kernel) dX10_layLiars_106 ?_
  refine lv_if_eq (tgt := 125) hx hb dX10_layLiars_107 (by decide) (fun _ => ?_) (fun c_ => absurd (by decide +kernel) c_)
  refine lv_iconst (v := 0) hx hb dX10_layLiars_125 (by decide) ?_
  refine k_zastS hC hK hP hD hS 0 63 rfl (by decide +kernel) (by decide) (by decide +kernel) dX10_layLiars_126 (fun H locs hP hD hS => ?_)
  refine lv_iinc (v := 64) (lv' := [(1, .int 64), (2, .int 0), (0, .ref a0)]) hx hb dX10_layLiars_127 hl (k := 0) rfl (by decide +kernel) (by decide) rfl (fun ls hl => ?_)
  refine lv_goto (tgt := 90) hx hb dX10_layLiars_130 (by decide) ?_
  refine lv_iload_n hx hb dX10_layLiars_90 rfl (lv_at hl 0 rfl) ?_
  refine lv_bipush (v := 64) hx hb dX10_layLiars_91 (by decide) ?_
  refine lv_icmp_ge (tgt := 133) hx hb dX10_layLiars_93 (by decide) (fun _ => ?_) (fun c_ => absurd (by decide +kernel) c_)
  exact k_vret hC hr hlk hK hP hD hS () [6, 0, 1, 7, 2, 3, 4, 5] rfl (by decide) trivial (Nat.le_of_ble_eq_true rfl) (Nat.le_of_ble_eq_true rfl) dX10_layLiars_133
theorem dX10_fewest_0 : decode cX10_fewest 0 = .ok (.aload_n 0, 1) := by decide +kernel
theorem dX10_fewest_1 : decode cX10_fewest 1 = .ok (.iload_n 1, 1) := by decide +kernel
theorem dX10_fewest_2 : decode cX10_fewest 2 = .ok (.invokevirtual 384, 3) := by decide +kernel
theorem dX10_fewest_5 : decode cX10_fewest 5 = .ok (.ifCond .ne 6, 3) := by decide +kernel
theorem dX10_fewest_11 : decode cX10_fewest 11 = .ok (.aload_n 0, 1) := by decide +kernel
theorem dX10_fewest_12 : decode cX10_fewest 12 = .ok (.invokevirtual 427, 3) := by decide +kernel
set_option maxRecDepth 100000 in
theorem wm_X10_427 : Cond.methodLink RX10 427 yX10_layLiars ∈ gw := gm (List.mem_of_getElem? (i := 1719) (by decide +kernel)) rfl
set_option maxRecDepth 100000 in
theorem mi_X10_layLiars : MI yX10_layLiars cX10_layLiars 3 none 0 := ⟨gm (List.mem_of_getElem? (i := 1722) rfl) rfl, gm (List.mem_of_getElem? (i := 124) (by decide +kernel)) rfl, by decide, by decide, by decide +kernel⟩
set_option maxRecDepth 100000 in
theorem in_X10_layLiars : Cond.instanceMethod yX10_layLiars ∈ gw := gm (List.mem_of_getElem? (i := 1721) (by decide +kernel)) rfl
set_option maxRecDepth 100000 in
theorem se_X10_layLiars : Cond.selects yX10_layLiars.cls yX10_layLiars yX10_layLiars ∈ gw := gm (List.mem_of_getElem? (i := 97) (by decide +kernel)) rfl
theorem dX10_fewest_15 : decode cX10_fewest 15 = .ok (.aload_n 0, 1) := by decide +kernel
theorem dX10_fewest_16 : decode cX10_fewest 16 = .ok (.getfield 421, 3) := by decide +kernel
theorem dX10_fewest_19 : decode cX10_fewest 19 = .ok (.ireturn, 1) := by decide +kernel
set_option maxHeartbeats 4000000 in
set_option maxRecDepth 100000 in
theorem c188_X10_fewest (l : Launch) (G : va_G) (cI cJ cB cZ : ClassId) (a0 a1 a2 a3 a4 a5 a6 a7 a8 a9 a10 a11 a12 a13 a14 a15 a16 a17 a18 a19 a20 a21 a22 a23 a24 a25 a26 a27 a28 a29 a30 a31 a32 a33 a34 a35 a36 a37 a38 a39 a40 a41 a42 : Nat) (x0 : Int32) : Con l G (TY cI cJ cB cZ) yX10_fewest cX10_fewest 2 (some .int) ({ frames := 4, cells := 0, slots := 0, locals := 89 } : Room) [.ref a0, .int x0] [(a0, .inr (10, [.ref a1, .ref a2, .int 0, .int 0, .int 0, .int (-1), .int 0, .int 0, .int 0, .int 0, .long 0, .ref a3, .ref a4, .ref a5, .ref a6, .ref a7, .ref a8, .ref a9, .ref a10, .ref a11, .ref a12, .ref a13, .ref a14, .ref a15, .ref a16, .ref a17, .ref a18, .ref a19, .ref a20, .ref a21, .ref a22, .ref a23, .ref a24, .ref a25, .ref a26, .ref a27, .ref a28, .ref a29, .ref a30, .ref a31, .int 0, .int 0, .ref a32, .ref a33, .int 0, .int 0, .int 0, .int 0, .ref a34, .int 0, .ref a35, .ref a36, .ref a37, .int 0, .int 0, .int 0, .int 0, .int 0, .int 0, .int 0, .int 0, .ref a38, .int 0, .ref a39, .ref a40, .ref a41, .ref a42, .int 0, .int 0])), (a8, .inl (cI, 2, .inl (upd (fun _ => 0) 0 100))), (a7, .inl (cI, 2, .inl (upd (fun _ => 0) 0 100))), (a11, .inl (cI, 4, .inl (upd (upd (fun _ => 0) 0 16) 1 16))), (a10, .inl (cI, 4, .inl (upd (upd (fun _ => 0) 0 16) 1 16))), (a12, .inl (cI, 2, .inl (fun _ => 0))), (a19, .inl (cI, 2, .inl (fun _ => 0))), (a37, .inl (cI, 2, .inl (fun _ => 0))), (a35, .inl (cI, 300000, .inl (fun _ => 0))), (a38, .inl (cZ, 64, .inl (fun _ => 0)))] (QI G (TY cI cJ cB cZ) (fun (r : Int32) (u : Unit) => r = 0) (fun u : Unit => [])) := by
  refine k_met (by decide) (Nat.le_of_ble_eq_true rfl) ?_
  intro p e s m below meth c A ls hC hr hlk hnm hN hK hA hP hD hS hl
  have hl : lv_has ls 2 [(0, .ref a0), (1, .int x0)] := hl
  obtain ⟨hx, hb, hml, hown, hts⟩ := id hC
  refine lv_aload_n hx hb dX10_fewest_0 rfl (lv_at hl 0 rfl) ?_
  refine lv_iload_n hx hb dX10_fewest_1 rfl (lv_at hl 1 rfl) ?_
  refine k_ci (wr := [(a38, .inl (cZ, 64, .inl (fun _ => 0)))]) (k_rV hC hN hK hP hD (c158_X10_find l G cI cJ cB cZ a0 a1 a2 a3 a4 a5 a6 a7 a8 a9 a10 a11 a12 a13 a14 a15 a16 a17 a18 a19 a20 a21 a22 a23 a24 a25 a26 a27 a28 a29 a30 a31 a32 a33 a34 a35 a36 a37 a38 a39 a40 a41 a42 x0) [0, 1, 2, 3, 4, 5, 6, 7, 8] rfl (by decide) mi_X10_find in_X10_find se_X10_find wm_X10_384 10 0 rfl rfl rfl hl.1 rfl rfl (Nat.le_of_ble_eq_true rfl) ⟨(Nat.le_of_ble_eq_true rfl), (Nat.le_of_ble_eq_true rfl)⟩ dX10_fewest_2 ⟨(Nat.le_of_ble_eq_true rfl), (Nat.le_of_ble_eq_true rfl)⟩) hP hD hS hA [0, 1, 2, 3, 4, 5, 6, 7, 8] [9] rfl rfl (by decide) (by decide) (fun r1 u1 H locs hp hP hD hS => ?_)
  have hP : va_P G cl [(a38, .inl (cZ, 64, .inl (fun _ => 0))), (a0, .inr (10, [.ref a1, .ref a2, .int 0, .int 0, .int 0, .int (-1), .int 0, .int 0, .int 0, .int 0, .long 0, .ref a3, .ref a4, .ref a5, .ref a6, .ref a7, .ref a8, .ref a9, .ref a10, .ref a11, .ref a12, .ref a13, .ref a14, .ref a15, .ref a16, .ref a17, .ref a18, .ref a19, .ref a20, .ref a21, .ref a22, .ref a23, .ref a24, .ref a25, .ref a26, .ref a27, .ref a28, .ref a29, .ref a30, .ref a31, .int 0, .int 0, .ref a32, .ref a33, .int 0, .int 0, .int 0, .int 1, .ref a34, .int 0, .ref a35, .ref a36, .ref a37, .int 1, .int x0, .int 100, .int 1, .int 0, .int 0, .int 0, .int 0, .ref a38, .int 0, .ref a39, .ref a40, .ref a41, .ref a42, .int 0, .int 0])), (a8, .inl (cI, 2, .inl (upd (fun _ => 0) 0 100))), (a7, .inl (cI, 2, .inl (upd (fun _ => 0) 0 100))), (a11, .inl (cI, 4, .inl (upd (upd (fun _ => 0) 0 16) 1 16))), (a10, .inl (cI, 4, .inl (upd (upd (fun _ => 0) 0 16) 1 16))), (a12, .inl (cI, 2, .inl (fun _ => 0))), (a19, .inl (cI, 2, .inl (fun _ => 0))), (a37, .inl (cI, 2, .inl (upd (upd (fun _ => 0) 1 16) 0 16))), (a35, .inl (cI, 300000, .inl (fun _ => 0)))] H := hP
  have hD : va_D A [(a38, .inl (cZ, 64, .inl (fun _ => 0))), (a0, .inr (10, [.ref a1, .ref a2, .int 0, .int 0, .int 0, .int (-1), .int 0, .int 0, .int 0, .int 0, .long 0, .ref a3, .ref a4, .ref a5, .ref a6, .ref a7, .ref a8, .ref a9, .ref a10, .ref a11, .ref a12, .ref a13, .ref a14, .ref a15, .ref a16, .ref a17, .ref a18, .ref a19, .ref a20, .ref a21, .ref a22, .ref a23, .ref a24, .ref a25, .ref a26, .ref a27, .ref a28, .ref a29, .ref a30, .ref a31, .int 0, .int 0, .ref a32, .ref a33, .int 0, .int 0, .int 0, .int 1, .ref a34, .int 0, .ref a35, .ref a36, .ref a37, .int 1, .int x0, .int 100, .int 1, .int 0, .int 0, .int 0, .int 0, .ref a38, .int 0, .ref a39, .ref a40, .ref a41, .ref a42, .int 0, .int 0])), (a8, .inl (cI, 2, .inl (upd (fun _ => 0) 0 100))), (a7, .inl (cI, 2, .inl (upd (fun _ => 0) 0 100))), (a11, .inl (cI, 4, .inl (upd (upd (fun _ => 0) 0 16) 1 16))), (a10, .inl (cI, 4, .inl (upd (upd (fun _ => 0) 0 16) 1 16))), (a12, .inl (cI, 2, .inl (fun _ => 0))), (a19, .inl (cI, 2, .inl (fun _ => 0))), (a37, .inl (cI, 2, .inl (upd (upd (fun _ => 0) 1 16) 0 16))), (a35, .inl (cI, 300000, .inl (fun _ => 0)))] := hD
  subst hp
  refine lv_if_ne (tgt := 11) hx hb dX10_fewest_5 (by decide) (fun _ => ?_) (fun c_ => absurd c_ (by decide +kernel))
  refine lv_aload_n hx hb dX10_fewest_11 rfl (lv_at hl 0 rfl) ?_
  refine k_cv (wr := [(a8, .inl (cI, 2, .inl (upd (fun _ => 0) 0 100))), (a19, .inl (cI, 2, .inl (fun _ => 0)))]) (k_rV hC hN hK hP hD (c187_X10_layLiars l G cI cJ cB cZ a0 a1 a2 a3 a4 a5 a6 a7 a8 a9 a10 a11 a12 a13 a14 a15 a16 a17 a18 a19 a20 a21 a22 a23 a24 a25 a26 a27 a28 a29 a30 a31 a32 a33 a34 a35 a36 a37 a38 a39 a40 a41 a42 x0) [1, 0, 9, 6, 5, 4, 8, 3] rfl (by decide) mi_X10_layLiars in_X10_layLiars se_X10_layLiars wm_X10_427 10 1 rfl rfl rfl hl.1 rfl rfl (Nat.le_of_ble_eq_true rfl) ⟨(Nat.le_of_ble_eq_true rfl), (Nat.le_of_ble_eq_true rfl)⟩ dX10_fewest_12 ⟨(Nat.le_of_ble_eq_true rfl), (Nat.le_of_ble_eq_true rfl)⟩) hP hD hS hA [1, 0, 9, 6, 5, 4, 8, 3] [2, 7] rfl rfl (by decide) (by decide) (fun u2 H locs hp hP hD hS => ?_)
  have hP : va_P G cl [(a8, .inl (cI, 2, .inl (upd (fun _ => 0) 0 100))), (a19, .inl (cI, 2, .inl (fun _ => 0))), (a0, .inr (10, [.ref a1, .ref a2, .int 0, .int 0, .int 0, .int (-1), .int 0, .int 0, .int 0, .int 0, .long 0, .ref a3, .ref a4, .ref a5, .ref a6, .ref a7, .ref a8, .ref a9, .ref a10, .ref a11, .ref a12, .ref a13, .ref a14, .ref a15, .ref a16, .ref a17, .ref a18, .ref a19, .ref a20, .ref a21, .ref a22, .ref a23, .ref a24, .ref a25, .ref a26, .ref a27, .ref a28, .ref a29, .ref a30, .ref a31, .int 0, .int 0, .ref a32, .ref a33, .int 0, .int 0, .int 0, .int 1, .ref a34, .int 0, .ref a35, .ref a36, .ref a37, .int 1, .int x0, .int 100, .int 1, .int 0, .int 0, .int 0, .int 0, .ref a38, .int 0, .ref a39, .ref a40, .ref a41, .ref a42, .int 0, .int 0])), (a38, .inl (cZ, 64, .inl (upd (fun _ => 0) 0 1))), (a35, .inl (cI, 300000, .inl (fun _ => 0))), (a12, .inl (cI, 2, .inl (fun _ => 0))), (a10, .inl (cI, 4, .inl (upd (upd (fun _ => 0) 0 16) 1 16))), (a11, .inl (cI, 4, .inl (upd (upd (fun _ => 0) 0 16) 1 16))), (a37, .inl (cI, 2, .inl (upd (upd (fun _ => 0) 1 16) 0 16))), (a7, .inl (cI, 2, .inl (upd (fun _ => 0) 0 100)))] H := hP
  have hD : va_D A [(a8, .inl (cI, 2, .inl (upd (fun _ => 0) 0 100))), (a19, .inl (cI, 2, .inl (fun _ => 0))), (a0, .inr (10, [.ref a1, .ref a2, .int 0, .int 0, .int 0, .int (-1), .int 0, .int 0, .int 0, .int 0, .long 0, .ref a3, .ref a4, .ref a5, .ref a6, .ref a7, .ref a8, .ref a9, .ref a10, .ref a11, .ref a12, .ref a13, .ref a14, .ref a15, .ref a16, .ref a17, .ref a18, .ref a19, .ref a20, .ref a21, .ref a22, .ref a23, .ref a24, .ref a25, .ref a26, .ref a27, .ref a28, .ref a29, .ref a30, .ref a31, .int 0, .int 0, .ref a32, .ref a33, .int 0, .int 0, .int 0, .int 1, .ref a34, .int 0, .ref a35, .ref a36, .ref a37, .int 1, .int x0, .int 100, .int 1, .int 0, .int 0, .int 0, .int 0, .ref a38, .int 0, .ref a39, .ref a40, .ref a41, .ref a42, .int 0, .int 0])), (a38, .inl (cZ, 64, .inl (upd (fun _ => 0) 0 1))), (a35, .inl (cI, 300000, .inl (fun _ => 0))), (a12, .inl (cI, 2, .inl (fun _ => 0))), (a10, .inl (cI, 4, .inl (upd (upd (fun _ => 0) 0 16) 1 16))), (a11, .inl (cI, 4, .inl (upd (upd (fun _ => 0) 0 16) 1 16))), (a37, .inl (cI, 2, .inl (upd (upd (fun _ => 0) 1 16) 0 16))), (a7, .inl (cI, 2, .inl (upd (fun _ => 0) 0 100)))] := hD
  refine lv_aload_n hx hb dX10_fewest_15 rfl (lv_at hl 0 rfl) ?_
  refine k_get hC hK hP iX10 2 62 wf_X10_421 rfl (by decide) rfl rfl dX10_fewest_16 ?_
  exact k_iret hC hr hlk hK hP hD hS () [] rfl (by decide) rfl (Nat.le_of_ble_eq_true rfl) (Nat.le_of_ble_eq_true rfl) dX10_fewest_19
theorem dX10_sets_0 : decode cX10_sets 0 = .ok (.aload_n 0, 1) := by decide +kernel
theorem dX10_sets_1 : decode cX10_sets 1 = .ok (.iload_n 1, 1) := by decide +kernel
theorem dX10_sets_2 : decode cX10_sets 2 = .ok (.invokevirtual 384, 3) := by decide +kernel
theorem dX10_sets_5 : decode cX10_sets 5 = .ok (.ifCond .ne 6, 3) := by decide +kernel
theorem dX10_sets_11 : decode cX10_sets 11 = .ok (.aload_n 0, 1) := by decide +kernel
theorem dX10_sets_12 : decode cX10_sets 12 = .ok (.invokevirtual 427, 3) := by decide +kernel
theorem dX10_sets_15 : decode cX10_sets 15 = .ok (.iconst 0, 1) := by decide +kernel
theorem dX10_sets_16 : decode cX10_sets 16 = .ok (.istore_n 2, 1) := by decide +kernel
theorem dX10_sets_17 : decode cX10_sets 17 = .ok (.iconst 0, 1) := by decide +kernel
theorem dX10_sets_18 : decode cX10_sets 18 = .ok (.istore_n 3, 1) := by decide +kernel
theorem dX10_sets_19 : decode cX10_sets 19 = .ok (.iload_n 3, 1) := by decide +kernel
theorem dX10_sets_20 : decode cX10_sets 20 = .ok (.bipush 64, 2) := by decide +kernel
theorem dX10_sets_22 : decode cX10_sets 22 = .ok (.if_icmp .ge 26, 3) := by decide +kernel
theorem dX10_sets_25 : decode cX10_sets 25 = .ok (.iload_n 2, 1) := by decide +kernel
theorem dX10_sets_26 : decode cX10_sets 26 = .ok (.aload_n 0, 1) := by decide +kernel
theorem dX10_sets_27 : decode cX10_sets 27 = .ok (.getfield 218, 3) := by decide +kernel
theorem dX10_sets_30 : decode cX10_sets 30 = .ok (.iload_n 3, 1) := by decide +kernel
theorem dX10_sets_31 : decode cX10_sets 31 = .ok (.baload, 1) := by decide +kernel
theorem dX10_sets_32 : decode cX10_sets 32 = .ok (.ifCond .eq 7, 3) := by decide +kernel
theorem dX10_sets_35 : decode cX10_sets 35 = .ok (.iconst 1, 1) := by decide +kernel
theorem dX10_sets_36 : decode cX10_sets 36 = .ok (.goto 4, 3) := by decide +kernel
theorem dX10_sets_40 : decode cX10_sets 40 = .ok (.iadd, 1) := by decide +kernel
theorem dX10_sets_41 : decode cX10_sets 41 = .ok (.istore_n 2, 1) := by decide +kernel
theorem dX10_sets_42 : decode cX10_sets 42 = .ok (.iinc 3 1, 3) := by decide +kernel
theorem dX10_sets_45 : decode cX10_sets 45 = .ok (.goto (-26), 3) := by decide +kernel
theorem dX10_sets_39 : decode cX10_sets 39 = .ok (.iconst 0, 1) := by decide +kernel
theorem dX10_sets_48 : decode cX10_sets 48 = .ok (.iload_n 2, 1) := by decide +kernel
theorem dX10_sets_49 : decode cX10_sets 49 = .ok (.ireturn, 1) := by decide +kernel
set_option maxHeartbeats 4000000 in
set_option maxRecDepth 100000 in
theorem c189_X10_sets (l : Launch) (G : va_G) (cI cJ cB cZ : ClassId) (a0 a1 a2 a3 a4 a5 a6 a7 a8 a9 a10 a11 a12 a13 a14 a15 a16 a17 a18 a19 a20 a21 a22 a23 a24 a25 a26 a27 a28 a29 a30 a31 a32 a33 a34 a35 a36 a37 a38 a39 a40 a41 a42 : Nat) (x0 : Int32) : Con l G (TY cI cJ cB cZ) yX10_sets cX10_sets 4 (some .int) ({ frames := 4, cells := 0, slots := 0, locals := 89 } : Room) [.ref a0, .int x0] [(a0, .inr (10, [.ref a1, .ref a2, .int 0, .int 0, .int 0, .int (-1), .int 0, .int 0, .int 0, .int 0, .long 0, .ref a3, .ref a4, .ref a5, .ref a6, .ref a7, .ref a8, .ref a9, .ref a10, .ref a11, .ref a12, .ref a13, .ref a14, .ref a15, .ref a16, .ref a17, .ref a18, .ref a19, .ref a20, .ref a21, .ref a22, .ref a23, .ref a24, .ref a25, .ref a26, .ref a27, .ref a28, .ref a29, .ref a30, .ref a31, .int 0, .int 0, .ref a32, .ref a33, .int 0, .int 0, .int 0, .int 0, .ref a34, .int 0, .ref a35, .ref a36, .ref a37, .int 0, .int 0, .int 0, .int 0, .int 0, .int 0, .int 0, .int 0, .ref a38, .int 0, .ref a39, .ref a40, .ref a41, .ref a42, .int 0, .int 0])), (a8, .inl (cI, 2, .inl (upd (fun _ => 0) 0 100))), (a7, .inl (cI, 2, .inl (upd (fun _ => 0) 0 100))), (a11, .inl (cI, 4, .inl (upd (upd (fun _ => 0) 0 16) 1 16))), (a10, .inl (cI, 4, .inl (upd (upd (fun _ => 0) 0 16) 1 16))), (a12, .inl (cI, 2, .inl (fun _ => 0))), (a19, .inl (cI, 2, .inl (fun _ => 0))), (a37, .inl (cI, 2, .inl (fun _ => 0))), (a35, .inl (cI, 300000, .inl (fun _ => 0))), (a38, .inl (cZ, 64, .inl (fun _ => 0)))] (QI G (TY cI cJ cB cZ) (fun (r : Int32) (u : Unit) => r = 1) (fun u : Unit => [])) := by
  refine k_met (by decide) (Nat.le_of_ble_eq_true rfl) ?_
  intro p e s m below meth c A ls hC hr hlk hnm hN hK hA hP hD hS hl
  have hl : lv_has ls 4 [(0, .ref a0), (1, .int x0)] := hl
  obtain ⟨hx, hb, hml, hown, hts⟩ := id hC
  refine lv_aload_n hx hb dX10_sets_0 rfl (lv_at hl 0 rfl) ?_
  refine lv_iload_n hx hb dX10_sets_1 rfl (lv_at hl 1 rfl) ?_
  refine k_ci (wr := [(a38, .inl (cZ, 64, .inl (fun _ => 0)))]) (k_rV hC hN hK hP hD (c158_X10_find l G cI cJ cB cZ a0 a1 a2 a3 a4 a5 a6 a7 a8 a9 a10 a11 a12 a13 a14 a15 a16 a17 a18 a19 a20 a21 a22 a23 a24 a25 a26 a27 a28 a29 a30 a31 a32 a33 a34 a35 a36 a37 a38 a39 a40 a41 a42 x0) [0, 1, 2, 3, 4, 5, 6, 7, 8] rfl (by decide) mi_X10_find in_X10_find se_X10_find wm_X10_384 10 0 rfl rfl rfl hl.1 rfl rfl (Nat.le_of_ble_eq_true rfl) ⟨(Nat.le_of_ble_eq_true rfl), (Nat.le_of_ble_eq_true rfl)⟩ dX10_sets_2 ⟨(Nat.le_of_ble_eq_true rfl), (Nat.le_of_ble_eq_true rfl)⟩) hP hD hS hA [0, 1, 2, 3, 4, 5, 6, 7, 8] [9] rfl rfl (by decide) (by decide) (fun r1 u1 H locs hp hP hD hS => ?_)
  have hP : va_P G cl [(a38, .inl (cZ, 64, .inl (fun _ => 0))), (a0, .inr (10, [.ref a1, .ref a2, .int 0, .int 0, .int 0, .int (-1), .int 0, .int 0, .int 0, .int 0, .long 0, .ref a3, .ref a4, .ref a5, .ref a6, .ref a7, .ref a8, .ref a9, .ref a10, .ref a11, .ref a12, .ref a13, .ref a14, .ref a15, .ref a16, .ref a17, .ref a18, .ref a19, .ref a20, .ref a21, .ref a22, .ref a23, .ref a24, .ref a25, .ref a26, .ref a27, .ref a28, .ref a29, .ref a30, .ref a31, .int 0, .int 0, .ref a32, .ref a33, .int 0, .int 0, .int 0, .int 1, .ref a34, .int 0, .ref a35, .ref a36, .ref a37, .int 1, .int x0, .int 100, .int 1, .int 0, .int 0, .int 0, .int 0, .ref a38, .int 0, .ref a39, .ref a40, .ref a41, .ref a42, .int 0, .int 0])), (a8, .inl (cI, 2, .inl (upd (fun _ => 0) 0 100))), (a7, .inl (cI, 2, .inl (upd (fun _ => 0) 0 100))), (a11, .inl (cI, 4, .inl (upd (upd (fun _ => 0) 0 16) 1 16))), (a10, .inl (cI, 4, .inl (upd (upd (fun _ => 0) 0 16) 1 16))), (a12, .inl (cI, 2, .inl (fun _ => 0))), (a19, .inl (cI, 2, .inl (fun _ => 0))), (a37, .inl (cI, 2, .inl (upd (upd (fun _ => 0) 1 16) 0 16))), (a35, .inl (cI, 300000, .inl (fun _ => 0)))] H := hP
  have hD : va_D A [(a38, .inl (cZ, 64, .inl (fun _ => 0))), (a0, .inr (10, [.ref a1, .ref a2, .int 0, .int 0, .int 0, .int (-1), .int 0, .int 0, .int 0, .int 0, .long 0, .ref a3, .ref a4, .ref a5, .ref a6, .ref a7, .ref a8, .ref a9, .ref a10, .ref a11, .ref a12, .ref a13, .ref a14, .ref a15, .ref a16, .ref a17, .ref a18, .ref a19, .ref a20, .ref a21, .ref a22, .ref a23, .ref a24, .ref a25, .ref a26, .ref a27, .ref a28, .ref a29, .ref a30, .ref a31, .int 0, .int 0, .ref a32, .ref a33, .int 0, .int 0, .int 0, .int 1, .ref a34, .int 0, .ref a35, .ref a36, .ref a37, .int 1, .int x0, .int 100, .int 1, .int 0, .int 0, .int 0, .int 0, .ref a38, .int 0, .ref a39, .ref a40, .ref a41, .ref a42, .int 0, .int 0])), (a8, .inl (cI, 2, .inl (upd (fun _ => 0) 0 100))), (a7, .inl (cI, 2, .inl (upd (fun _ => 0) 0 100))), (a11, .inl (cI, 4, .inl (upd (upd (fun _ => 0) 0 16) 1 16))), (a10, .inl (cI, 4, .inl (upd (upd (fun _ => 0) 0 16) 1 16))), (a12, .inl (cI, 2, .inl (fun _ => 0))), (a19, .inl (cI, 2, .inl (fun _ => 0))), (a37, .inl (cI, 2, .inl (upd (upd (fun _ => 0) 1 16) 0 16))), (a35, .inl (cI, 300000, .inl (fun _ => 0)))] := hD
  subst hp
  refine lv_if_ne (tgt := 11) hx hb dX10_sets_5 (by decide) (fun _ => ?_) (fun c_ => absurd c_ (by decide +kernel))
  refine lv_aload_n hx hb dX10_sets_11 rfl (lv_at hl 0 rfl) ?_
  refine k_cv (wr := [(a8, .inl (cI, 2, .inl (upd (fun _ => 0) 0 100))), (a19, .inl (cI, 2, .inl (fun _ => 0)))]) (k_rV hC hN hK hP hD (c187_X10_layLiars l G cI cJ cB cZ a0 a1 a2 a3 a4 a5 a6 a7 a8 a9 a10 a11 a12 a13 a14 a15 a16 a17 a18 a19 a20 a21 a22 a23 a24 a25 a26 a27 a28 a29 a30 a31 a32 a33 a34 a35 a36 a37 a38 a39 a40 a41 a42 x0) [1, 0, 9, 6, 5, 4, 8, 3] rfl (by decide) mi_X10_layLiars in_X10_layLiars se_X10_layLiars wm_X10_427 10 1 rfl rfl rfl hl.1 rfl rfl (Nat.le_of_ble_eq_true rfl) ⟨(Nat.le_of_ble_eq_true rfl), (Nat.le_of_ble_eq_true rfl)⟩ dX10_sets_12 ⟨(Nat.le_of_ble_eq_true rfl), (Nat.le_of_ble_eq_true rfl)⟩) hP hD hS hA [1, 0, 9, 6, 5, 4, 8, 3] [2, 7] rfl rfl (by decide) (by decide) (fun u2 H locs hp hP hD hS => ?_)
  have hP : va_P G cl [(a8, .inl (cI, 2, .inl (upd (fun _ => 0) 0 100))), (a19, .inl (cI, 2, .inl (fun _ => 0))), (a0, .inr (10, [.ref a1, .ref a2, .int 0, .int 0, .int 0, .int (-1), .int 0, .int 0, .int 0, .int 0, .long 0, .ref a3, .ref a4, .ref a5, .ref a6, .ref a7, .ref a8, .ref a9, .ref a10, .ref a11, .ref a12, .ref a13, .ref a14, .ref a15, .ref a16, .ref a17, .ref a18, .ref a19, .ref a20, .ref a21, .ref a22, .ref a23, .ref a24, .ref a25, .ref a26, .ref a27, .ref a28, .ref a29, .ref a30, .ref a31, .int 0, .int 0, .ref a32, .ref a33, .int 0, .int 0, .int 0, .int 1, .ref a34, .int 0, .ref a35, .ref a36, .ref a37, .int 1, .int x0, .int 100, .int 1, .int 0, .int 0, .int 0, .int 0, .ref a38, .int 0, .ref a39, .ref a40, .ref a41, .ref a42, .int 0, .int 0])), (a38, .inl (cZ, 64, .inl (upd (fun _ => 0) 0 1))), (a35, .inl (cI, 300000, .inl (fun _ => 0))), (a12, .inl (cI, 2, .inl (fun _ => 0))), (a10, .inl (cI, 4, .inl (upd (upd (fun _ => 0) 0 16) 1 16))), (a11, .inl (cI, 4, .inl (upd (upd (fun _ => 0) 0 16) 1 16))), (a37, .inl (cI, 2, .inl (upd (upd (fun _ => 0) 1 16) 0 16))), (a7, .inl (cI, 2, .inl (upd (fun _ => 0) 0 100)))] H := hP
  have hD : va_D A [(a8, .inl (cI, 2, .inl (upd (fun _ => 0) 0 100))), (a19, .inl (cI, 2, .inl (fun _ => 0))), (a0, .inr (10, [.ref a1, .ref a2, .int 0, .int 0, .int 0, .int (-1), .int 0, .int 0, .int 0, .int 0, .long 0, .ref a3, .ref a4, .ref a5, .ref a6, .ref a7, .ref a8, .ref a9, .ref a10, .ref a11, .ref a12, .ref a13, .ref a14, .ref a15, .ref a16, .ref a17, .ref a18, .ref a19, .ref a20, .ref a21, .ref a22, .ref a23, .ref a24, .ref a25, .ref a26, .ref a27, .ref a28, .ref a29, .ref a30, .ref a31, .int 0, .int 0, .ref a32, .ref a33, .int 0, .int 0, .int 0, .int 1, .ref a34, .int 0, .ref a35, .ref a36, .ref a37, .int 1, .int x0, .int 100, .int 1, .int 0, .int 0, .int 0, .int 0, .ref a38, .int 0, .ref a39, .ref a40, .ref a41, .ref a42, .int 0, .int 0])), (a38, .inl (cZ, 64, .inl (upd (fun _ => 0) 0 1))), (a35, .inl (cI, 300000, .inl (fun _ => 0))), (a12, .inl (cI, 2, .inl (fun _ => 0))), (a10, .inl (cI, 4, .inl (upd (upd (fun _ => 0) 0 16) 1 16))), (a11, .inl (cI, 4, .inl (upd (upd (fun _ => 0) 0 16) 1 16))), (a37, .inl (cI, 2, .inl (upd (upd (fun _ => 0) 1 16) 0 16))), (a7, .inl (cI, 2, .inl (upd (fun _ => 0) 0 100)))] := hD
  refine lv_iconst (v := 0) hx hb dX10_sets_15 (by decide) ?_
  refine lv_istore_n (lv' := [(2, .int 0), (0, .ref a0), (1, .int x0)]) hx hb dX10_sets_16 rfl hl (by decide) rfl (fun ls hl => ?_)
  refine lv_iconst (v := 0) hx hb dX10_sets_17 (by decide) ?_
  refine lv_istore_n (lv' := [(3, .int 0), (2, .int 0), (0, .ref a0), (1, .int x0)]) hx hb dX10_sets_18 rfl hl (by decide) rfl (fun ls hl => ?_)
  refine lv_iload_n hx hb dX10_sets_19 rfl (lv_at hl 0 rfl) ?_
  refine lv_bipush (v := 64) hx hb dX10_sets_20 (by decide) ?_
  refine lv_icmp_ge (tgt := 48) hx hb dX10_sets_22 (by decide) (fun c_ => absurd c_ (by decide +kernel)) (fun _ => ?_)
  refine lv_iload_n hx hb dX10_sets_25 rfl (lv_at hl 1 rfl) ?_
  refine lv_aload_n hx hb dX10_sets_26 rfl (lv_at hl 2 rfl) ?_
  refine k_get hC hK hP iX10 2 61 wf_X10_218 rfl (by decide) rfl rfl dX10_sets_27 ?_
  refine lv_iload_n hx hb dX10_sets_30 rfl (lv_at hl 0 rfl) ?_
  refine k_zald (v := 1) hC hK hP 3 0 rfl (by decide +kernel) (by decide) (by decide +kernel) dX10_sets_31 ?_
  refine lv_if_eq (tgt := 39) hx hb dX10_sets_32 (by decide) (fun c_ => absurd c_ (by decide +kernel)) (fun _ => ?_)
  refine lv_iconst (v := 1) hx hb dX10_sets_35 (by decide) ?_
  refine lv_goto (tgt := 40) hx hb dX10_sets_36 (by decide) ?_
  refine lv_iadd hx hb dX10_sets_40 ?_
  refine k_i 1 (by decide +kernel) ?_
  refine lv_istore_n (lv' := [(2, .int 1), (3, .int 0), (0, .ref a0), (1, .int x0)]) hx hb dX10_sets_41 rfl hl (by decide) rfl (fun ls hl => ?_)
  refine lv_iinc (v := 1) (lv' := [(3, .int 1), (2, .int 1), (0, .ref a0), (1, .int x0)]) hx hb dX10_sets_42 hl (k := 1) rfl (by decide +kernel) (by decide) rfl (fun ls hl => ?_)
  refine lv_goto (tgt := 19) hx hb dX10_sets_45 (by decide) ?_
  refine lv_iload_n hx hb dX10_sets_19 rfl (lv_at hl 0 rfl) ?_
  refine lv_bipush (v := 64) hx hb dX10_sets_20 (by decide) ?_
  refine lv_icmp_ge (tgt := 48) hx hb dX10_sets_22 (by decide) (fun c_ => absurd c_ (by decide +kernel)) (fun _ => ?_)
  refine lv_iload_n hx hb dX10_sets_25 rfl (lv_at hl 1 rfl) ?_
  refine lv_aload_n hx hb dX10_sets_26 rfl (lv_at hl 2 rfl) ?_
  refine k_get hC hK hP iX10 2 61 wf_X10_218 rfl (by decide) rfl rfl dX10_sets_27 ?_
  refine lv_iload_n hx hb dX10_sets_30 rfl (lv_at hl 0 rfl) ?_
  refine k_zald (v := 0) hC hK hP 3 1 rfl (by decide +kernel) (by decide) (by decide +kernel) dX10_sets_31 ?_
  refine lv_if_eq (tgt := 39) hx hb dX10_sets_32 (by decide) (fun _ => ?_) (fun c_ => absurd (by decide +kernel) c_)
  refine lv_iconst (v := 0) hx hb dX10_sets_39 (by decide) ?_
  refine lv_iadd hx hb dX10_sets_40 ?_
  refine k_i 1 (by decide +kernel) ?_
  refine lv_istore_n (lv' := [(2, .int 1), (3, .int 1), (0, .ref a0), (1, .int x0)]) hx hb dX10_sets_41 rfl hl (by decide) rfl (fun ls hl => ?_)
  refine lv_iinc (v := 2) (lv' := [(3, .int 2), (2, .int 1), (0, .ref a0), (1, .int x0)]) hx hb dX10_sets_42 hl (k := 1) rfl (by decide +kernel) (by decide) rfl (fun ls hl => ?_)
  refine lv_goto (tgt := 19) hx hb dX10_sets_45 (by decide) ?_
  refine lv_iload_n hx hb dX10_sets_19 rfl (lv_at hl 0 rfl) ?_
  refine lv_bipush (v := 64) hx hb dX10_sets_20 (by decide) ?_
  refine lv_icmp_ge (tgt := 48) hx hb dX10_sets_22 (by decide) (fun c_ => absurd c_ (by decide +kernel)) (fun _ => ?_)
  refine lv_iload_n hx hb dX10_sets_25 rfl (lv_at hl 1 rfl) ?_
  refine lv_aload_n hx hb dX10_sets_26 rfl (lv_at hl 2 rfl) ?_
  refine k_get hC hK hP iX10 2 61 wf_X10_218 rfl (by decide) rfl rfl dX10_sets_27 ?_
  refine lv_iload_n hx hb dX10_sets_30 rfl (lv_at hl 0 rfl) ?_
  refine k_zald (v := 0) hC hK hP 3 2 rfl (by decide +kernel) (by decide) (by decide +kernel) dX10_sets_31 ?_
  refine lv_if_eq (tgt := 39) hx hb dX10_sets_32 (by decide) (fun _ => ?_) (fun c_ => absurd (by decide +kernel) c_)
  refine lv_iconst (v := 0) hx hb dX10_sets_39 (by decide) ?_
  refine lv_iadd hx hb dX10_sets_40 ?_
  refine k_i 1 (by decide +kernel) ?_
  refine lv_istore_n (lv' := [(2, .int 1), (3, .int 2), (0, .ref a0), (1, .int x0)]) hx hb dX10_sets_41 rfl hl (by decide) rfl (fun ls hl => ?_)
  refine lv_iinc (v := 3) (lv' := [(3, .int 3), (2, .int 1), (0, .ref a0), (1, .int x0)]) hx hb dX10_sets_42 hl (k := 1) rfl (by decide +kernel) (by decide) rfl (fun ls hl => ?_)
  refine lv_goto (tgt := 19) hx hb dX10_sets_45 (by decide) ?_
  refine lv_iload_n hx hb dX10_sets_19 rfl (lv_at hl 0 rfl) ?_
  refine lv_bipush (v := 64) hx hb dX10_sets_20 (by decide) ?_
  refine lv_icmp_ge (tgt := 48) hx hb dX10_sets_22 (by decide) (fun c_ => absurd c_ (by decide +kernel)) (fun _ => ?_)
  refine lv_iload_n hx hb dX10_sets_25 rfl (lv_at hl 1 rfl) ?_
  refine lv_aload_n hx hb dX10_sets_26 rfl (lv_at hl 2 rfl) ?_
  refine k_get hC hK hP iX10 2 61 wf_X10_218 rfl (by decide) rfl rfl dX10_sets_27 ?_
  refine lv_iload_n hx hb dX10_sets_30 rfl (lv_at hl 0 rfl) ?_
  refine k_zald (v := 0) hC hK hP 3 3 rfl (by decide +kernel) (by decide) (by decide +kernel) dX10_sets_31 ?_
  refine lv_if_eq (tgt := 39) hx hb dX10_sets_32 (by decide) (fun _ => ?_) (fun c_ => absurd (by decide +kernel) c_)
  refine lv_iconst (v := 0) hx hb dX10_sets_39 (by decide) ?_
  refine lv_iadd hx hb dX10_sets_40 ?_
  refine k_i 1 (by decide +kernel) ?_
  refine lv_istore_n (lv' := [(2, .int 1), (3, .int 3), (0, .ref a0), (1, .int x0)]) hx hb dX10_sets_41 rfl hl (by decide) rfl (fun ls hl => ?_)
  refine lv_iinc (v := 4) (lv' := [(3, .int 4), (2, .int 1), (0, .ref a0), (1, .int x0)]) hx hb dX10_sets_42 hl (k := 1) rfl (by decide +kernel) (by decide) rfl (fun ls hl => ?_)
  refine lv_goto (tgt := 19) hx hb dX10_sets_45 (by decide) ?_
  refine lv_iload_n hx hb dX10_sets_19 rfl (lv_at hl 0 rfl) ?_
  refine lv_bipush (v := 64) hx hb dX10_sets_20 (by decide) ?_
  refine lv_icmp_ge (tgt := 48) hx hb dX10_sets_22 (by decide) (fun c_ => absurd c_ (by decide +kernel)) (fun _ => ?_)
  refine lv_iload_n hx hb dX10_sets_25 rfl (lv_at hl 1 rfl) ?_
  refine lv_aload_n hx hb dX10_sets_26 rfl (lv_at hl 2 rfl) ?_
  refine k_get hC hK hP iX10 2 61 wf_X10_218 rfl (by decide) rfl rfl dX10_sets_27 ?_
  refine lv_iload_n hx hb dX10_sets_30 rfl (lv_at hl 0 rfl) ?_
  refine k_zald (v := 0) hC hK hP 3 4 rfl (by decide +kernel) (by decide) (by decide +kernel) dX10_sets_31 ?_
  refine lv_if_eq (tgt := 39) hx hb dX10_sets_32 (by decide) (fun _ => ?_) (fun c_ => absurd (by decide +kernel) c_)
  refine lv_iconst (v := 0) hx hb dX10_sets_39 (by decide) ?_
  refine lv_iadd hx hb dX10_sets_40 ?_
  refine k_i 1 (by decide +kernel) ?_
  refine lv_istore_n (lv' := [(2, .int 1), (3, .int 4), (0, .ref a0), (1, .int x0)]) hx hb dX10_sets_41 rfl hl (by decide) rfl (fun ls hl => ?_)
  refine lv_iinc (v := 5) (lv' := [(3, .int 5), (2, .int 1), (0, .ref a0), (1, .int x0)]) hx hb dX10_sets_42 hl (k := 1) rfl (by decide +kernel) (by decide) rfl (fun ls hl => ?_)
  refine lv_goto (tgt := 19) hx hb dX10_sets_45 (by decide) ?_
  refine lv_iload_n hx hb dX10_sets_19 rfl (lv_at hl 0 rfl) ?_
  refine lv_bipush (v := 64) hx hb dX10_sets_20 (by decide) ?_
  refine lv_icmp_ge (tgt := 48) hx hb dX10_sets_22 (by decide) (fun c_ => absurd c_ (by decide +kernel)) (fun _ => ?_)
  refine lv_iload_n hx hb dX10_sets_25 rfl (lv_at hl 1 rfl) ?_
  refine lv_aload_n hx hb dX10_sets_26 rfl (lv_at hl 2 rfl) ?_
  refine k_get hC hK hP iX10 2 61 wf_X10_218 rfl (by decide) rfl rfl dX10_sets_27 ?_
  refine lv_iload_n hx hb dX10_sets_30 rfl (lv_at hl 0 rfl) ?_
  refine k_zald (v := 0) hC hK hP 3 5 rfl (by decide +kernel) (by decide) (by decide +kernel) dX10_sets_31 ?_
  refine lv_if_eq (tgt := 39) hx hb dX10_sets_32 (by decide) (fun _ => ?_) (fun c_ => absurd (by decide +kernel) c_)
  refine lv_iconst (v := 0) hx hb dX10_sets_39 (by decide) ?_
  refine lv_iadd hx hb dX10_sets_40 ?_
  refine k_i 1 (by decide +kernel) ?_
  refine lv_istore_n (lv' := [(2, .int 1), (3, .int 5), (0, .ref a0), (1, .int x0)]) hx hb dX10_sets_41 rfl hl (by decide) rfl (fun ls hl => ?_)
  refine lv_iinc (v := 6) (lv' := [(3, .int 6), (2, .int 1), (0, .ref a0), (1, .int x0)]) hx hb dX10_sets_42 hl (k := 1) rfl (by decide +kernel) (by decide) rfl (fun ls hl => ?_)
  refine lv_goto (tgt := 19) hx hb dX10_sets_45 (by decide) ?_
  refine lv_iload_n hx hb dX10_sets_19 rfl (lv_at hl 0 rfl) ?_
  refine lv_bipush (v := 64) hx hb dX10_sets_20 (by decide) ?_
  refine lv_icmp_ge (tgt := 48) hx hb dX10_sets_22 (by decide) (fun c_ => absurd c_ (by decide +kernel)) (fun _ => ?_)
  refine lv_iload_n hx hb dX10_sets_25 rfl (lv_at hl 1 rfl) ?_
  refine lv_aload_n hx hb dX10_sets_26 rfl (lv_at hl 2 rfl) ?_
  refine k_get hC hK hP iX10 2 61 wf_X10_218 rfl (by decide) rfl rfl dX10_sets_27 ?_
  refine lv_iload_n hx hb dX10_sets_30 rfl (lv_at hl 0 rfl) ?_
  refine k_zald (v := 0) hC hK hP 3 6 rfl (by decide +kernel) (by decide) (by decide +kernel) dX10_sets_31 ?_
  refine lv_if_eq (tgt := 39) hx hb dX10_sets_32 (by decide) (fun _ => ?_) (fun c_ => absurd (by decide +kernel) c_)
  refine lv_iconst (v := 0) hx hb dX10_sets_39 (by decide) ?_
  refine lv_iadd hx hb dX10_sets_40 ?_
  refine k_i 1 (by decide +kernel) ?_
  refine lv_istore_n (lv' := [(2, .int 1), (3, .int 6), (0, .ref a0), (1, .int x0)]) hx hb dX10_sets_41 rfl hl (by decide) rfl (fun ls hl => ?_)
  refine lv_iinc (v := 7) (lv' := [(3, .int 7), (2, .int 1), (0, .ref a0), (1, .int x0)]) hx hb dX10_sets_42 hl (k := 1) rfl (by decide +kernel) (by decide) rfl (fun ls hl => ?_)
  refine lv_goto (tgt := 19) hx hb dX10_sets_45 (by decide) ?_
  refine lv_iload_n hx hb dX10_sets_19 rfl (lv_at hl 0 rfl) ?_
  refine lv_bipush (v := 64) hx hb dX10_sets_20 (by decide) ?_
  refine lv_icmp_ge (tgt := 48) hx hb dX10_sets_22 (by decide) (fun c_ => absurd c_ (by decide +kernel)) (fun _ => ?_)
  refine lv_iload_n hx hb dX10_sets_25 rfl (lv_at hl 1 rfl) ?_
  refine lv_aload_n hx hb dX10_sets_26 rfl (lv_at hl 2 rfl) ?_
  refine k_get hC hK hP iX10 2 61 wf_X10_218 rfl (by decide) rfl rfl dX10_sets_27 ?_
  refine lv_iload_n hx hb dX10_sets_30 rfl (lv_at hl 0 rfl) ?_
  refine k_zald (v := 0) hC hK hP 3 7 rfl (by decide +kernel) (by decide) (by decide +kernel) dX10_sets_31 ?_
  refine lv_if_eq (tgt := 39) hx hb dX10_sets_32 (by decide) (fun _ => ?_) (fun c_ => absurd (by decide +kernel) c_)
  refine lv_iconst (v := 0) hx hb dX10_sets_39 (by decide) ?_
  refine lv_iadd hx hb dX10_sets_40 ?_
  refine k_i 1 (by decide +kernel) ?_
  refine lv_istore_n (lv' := [(2, .int 1), (3, .int 7), (0, .ref a0), (1, .int x0)]) hx hb dX10_sets_41 rfl hl (by decide) rfl (fun ls hl => ?_)
  refine lv_iinc (v := 8) (lv' := [(3, .int 8), (2, .int 1), (0, .ref a0), (1, .int x0)]) hx hb dX10_sets_42 hl (k := 1) rfl (by decide +kernel) (by decide) rfl (fun ls hl => ?_)
  refine lv_goto (tgt := 19) hx hb dX10_sets_45 (by decide) ?_
  refine lv_iload_n hx hb dX10_sets_19 rfl (lv_at hl 0 rfl) ?_
  refine lv_bipush (v := 64) hx hb dX10_sets_20 (by decide) ?_
  refine lv_icmp_ge (tgt := 48) hx hb dX10_sets_22 (by decide) (fun c_ => absurd c_ (by decide +kernel)) (fun _ => ?_)
  refine lv_iload_n hx hb dX10_sets_25 rfl (lv_at hl 1 rfl) ?_
  refine lv_aload_n hx hb dX10_sets_26 rfl (lv_at hl 2 rfl) ?_
  refine k_get hC hK hP iX10 2 61 wf_X10_218 rfl (by decide) rfl rfl dX10_sets_27 ?_
  refine lv_iload_n hx hb dX10_sets_30 rfl (lv_at hl 0 rfl) ?_
  refine k_zald (v := 0) hC hK hP 3 8 rfl (by decide +kernel) (by decide) (by decide +kernel) dX10_sets_31 ?_
  refine lv_if_eq (tgt := 39) hx hb dX10_sets_32 (by decide) (fun _ => ?_) (fun c_ => absurd (by decide +kernel) c_)
  refine lv_iconst (v := 0) hx hb dX10_sets_39 (by decide) ?_
  refine lv_iadd hx hb dX10_sets_40 ?_
  refine k_i 1 (by decide +kernel) ?_
  refine lv_istore_n (lv' := [(2, .int 1), (3, .int 8), (0, .ref a0), (1, .int x0)]) hx hb dX10_sets_41 rfl hl (by decide) rfl (fun ls hl => ?_)
  refine lv_iinc (v := 9) (lv' := [(3, .int 9), (2, .int 1), (0, .ref a0), (1, .int x0)]) hx hb dX10_sets_42 hl (k := 1) rfl (by decide +kernel) (by decide) rfl (fun ls hl => ?_)
  refine lv_goto (tgt := 19) hx hb dX10_sets_45 (by decide) ?_
  refine lv_iload_n hx hb dX10_sets_19 rfl (lv_at hl 0 rfl) ?_
  refine lv_bipush (v := 64) hx hb dX10_sets_20 (by decide) ?_
  refine lv_icmp_ge (tgt := 48) hx hb dX10_sets_22 (by decide) (fun c_ => absurd c_ (by decide +kernel)) (fun _ => ?_)
  refine lv_iload_n hx hb dX10_sets_25 rfl (lv_at hl 1 rfl) ?_
  refine lv_aload_n hx hb dX10_sets_26 rfl (lv_at hl 2 rfl) ?_
  refine k_get hC hK hP iX10 2 61 wf_X10_218 rfl (by decide) rfl rfl dX10_sets_27 ?_
  refine lv_iload_n hx hb dX10_sets_30 rfl (lv_at hl 0 rfl) ?_
  refine k_zald (v := 0) hC hK hP 3 9 rfl (by decide +kernel) (by decide) (by decide +kernel) dX10_sets_31 ?_
  refine lv_if_eq (tgt := 39) hx hb dX10_sets_32 (by decide) (fun _ => ?_) (fun c_ => absurd (by decide +kernel) c_)
  refine lv_iconst (v := 0) hx hb dX10_sets_39 (by decide) ?_
  refine lv_iadd hx hb dX10_sets_40 ?_
  refine k_i 1 (by decide +kernel) ?_
  refine lv_istore_n (lv' := [(2, .int 1), (3, .int 9), (0, .ref a0), (1, .int x0)]) hx hb dX10_sets_41 rfl hl (by decide) rfl (fun ls hl => ?_)
  refine lv_iinc (v := 10) (lv' := [(3, .int 10), (2, .int 1), (0, .ref a0), (1, .int x0)]) hx hb dX10_sets_42 hl (k := 1) rfl (by decide +kernel) (by decide) rfl (fun ls hl => ?_)
  refine lv_goto (tgt := 19) hx hb dX10_sets_45 (by decide) ?_
  refine lv_iload_n hx hb dX10_sets_19 rfl (lv_at hl 0 rfl) ?_
  refine lv_bipush (v := 64) hx hb dX10_sets_20 (by decide) ?_
  refine lv_icmp_ge (tgt := 48) hx hb dX10_sets_22 (by decide) (fun c_ => absurd c_ (by decide +kernel)) (fun _ => ?_)
  refine lv_iload_n hx hb dX10_sets_25 rfl (lv_at hl 1 rfl) ?_
  refine lv_aload_n hx hb dX10_sets_26 rfl (lv_at hl 2 rfl) ?_
  refine k_get hC hK hP iX10 2 61 wf_X10_218 rfl (by decide) rfl rfl dX10_sets_27 ?_
  refine lv_iload_n hx hb dX10_sets_30 rfl (lv_at hl 0 rfl) ?_
  refine k_zald (v := 0) hC hK hP 3 10 rfl (by decide +kernel) (by decide) (by decide +kernel) dX10_sets_31 ?_
  refine lv_if_eq (tgt := 39) hx hb dX10_sets_32 (by decide) (fun _ => ?_) (fun c_ => absurd (by decide +kernel) c_)
  refine lv_iconst (v := 0) hx hb dX10_sets_39 (by decide) ?_
  refine lv_iadd hx hb dX10_sets_40 ?_
  refine k_i 1 (by decide +kernel) ?_
  refine lv_istore_n (lv' := [(2, .int 1), (3, .int 10), (0, .ref a0), (1, .int x0)]) hx hb dX10_sets_41 rfl hl (by decide) rfl (fun ls hl => ?_)
  refine lv_iinc (v := 11) (lv' := [(3, .int 11), (2, .int 1), (0, .ref a0), (1, .int x0)]) hx hb dX10_sets_42 hl (k := 1) rfl (by decide +kernel) (by decide) rfl (fun ls hl => ?_)
  refine lv_goto (tgt := 19) hx hb dX10_sets_45 (by decide) ?_
  refine lv_iload_n hx hb dX10_sets_19 rfl (lv_at hl 0 rfl) ?_
  refine lv_bipush (v := 64) hx hb dX10_sets_20 (by decide) ?_
  refine lv_icmp_ge (tgt := 48) hx hb dX10_sets_22 (by decide) (fun c_ => absurd c_ (by decide +kernel)) (fun _ => ?_)
  refine lv_iload_n hx hb dX10_sets_25 rfl (lv_at hl 1 rfl) ?_
  refine lv_aload_n hx hb dX10_sets_26 rfl (lv_at hl 2 rfl) ?_
  refine k_get hC hK hP iX10 2 61 wf_X10_218 rfl (by decide) rfl rfl dX10_sets_27 ?_
  refine lv_iload_n hx hb dX10_sets_30 rfl (lv_at hl 0 rfl) ?_
  refine k_zald (v := 0) hC hK hP 3 11 rfl (by decide +kernel) (by decide) (by decide +kernel) dX10_sets_31 ?_
  refine lv_if_eq (tgt := 39) hx hb dX10_sets_32 (by decide) (fun _ => ?_) (fun c_ => absurd (by decide +kernel) c_)
  refine lv_iconst (v := 0) hx hb dX10_sets_39 (by decide) ?_
  refine lv_iadd hx hb dX10_sets_40 ?_
  refine k_i 1 (by decide +kernel) ?_
  refine lv_istore_n (lv' := [(2, .int 1), (3, .int 11), (0, .ref a0), (1, .int x0)]) hx hb dX10_sets_41 rfl hl (by decide) rfl (fun ls hl => ?_)
  refine lv_iinc (v := 12) (lv' := [(3, .int 12), (2, .int 1), (0, .ref a0), (1, .int x0)]) hx hb dX10_sets_42 hl (k := 1) rfl (by decide +kernel) (by decide) rfl (fun ls hl => ?_)
  refine lv_goto (tgt := 19) hx hb dX10_sets_45 (by decide) ?_
  refine lv_iload_n hx hb dX10_sets_19 rfl (lv_at hl 0 rfl) ?_
  refine lv_bipush (v := 64) hx hb dX10_sets_20 (by decide) ?_
  refine lv_icmp_ge (tgt := 48) hx hb dX10_sets_22 (by decide) (fun c_ => absurd c_ (by decide +kernel)) (fun _ => ?_)
  refine lv_iload_n hx hb dX10_sets_25 rfl (lv_at hl 1 rfl) ?_
  refine lv_aload_n hx hb dX10_sets_26 rfl (lv_at hl 2 rfl) ?_
  refine k_get hC hK hP iX10 2 61 wf_X10_218 rfl (by decide) rfl rfl dX10_sets_27 ?_
  refine lv_iload_n hx hb dX10_sets_30 rfl (lv_at hl 0 rfl) ?_
  refine k_zald (v := 0) hC hK hP 3 12 rfl (by decide +kernel) (by decide) (by decide +kernel) dX10_sets_31 ?_
  refine lv_if_eq (tgt := 39) hx hb dX10_sets_32 (by decide) (fun _ => ?_) (fun c_ => absurd (by decide +kernel) c_)
  refine lv_iconst (v := 0) hx hb dX10_sets_39 (by decide) ?_
  refine lv_iadd hx hb dX10_sets_40 ?_
  refine k_i 1 (by decide +kernel) ?_
  refine lv_istore_n (lv' := [(2, .int 1), (3, .int 12), (0, .ref a0), (1, .int x0)]) hx hb dX10_sets_41 rfl hl (by decide) rfl (fun ls hl => ?_)
  refine lv_iinc (v := 13) (lv' := [(3, .int 13), (2, .int 1), (0, .ref a0), (1, .int x0)]) hx hb dX10_sets_42 hl (k := 1) rfl (by decide +kernel) (by decide) rfl (fun ls hl => ?_)
  refine lv_goto (tgt := 19) hx hb dX10_sets_45 (by decide) ?_
  refine lv_iload_n hx hb dX10_sets_19 rfl (lv_at hl 0 rfl) ?_
  refine lv_bipush (v := 64) hx hb dX10_sets_20 (by decide) ?_
  refine lv_icmp_ge (tgt := 48) hx hb dX10_sets_22 (by decide) (fun c_ => absurd c_ (by decide +kernel)) (fun _ => ?_)
  refine lv_iload_n hx hb dX10_sets_25 rfl (lv_at hl 1 rfl) ?_
  refine lv_aload_n hx hb dX10_sets_26 rfl (lv_at hl 2 rfl) ?_
  refine k_get hC hK hP iX10 2 61 wf_X10_218 rfl (by decide) rfl rfl dX10_sets_27 ?_
  refine lv_iload_n hx hb dX10_sets_30 rfl (lv_at hl 0 rfl) ?_
  refine k_zald (v := 0) hC hK hP 3 13 rfl (by decide +kernel) (by decide) (by decide +kernel) dX10_sets_31 ?_
  refine lv_if_eq (tgt := 39) hx hb dX10_sets_32 (by decide) (fun _ => ?_) (fun c_ => absurd (by decide +kernel) c_)
  refine lv_iconst (v := 0) hx hb dX10_sets_39 (by decide) ?_
  refine lv_iadd hx hb dX10_sets_40 ?_
  refine k_i 1 (by decide +kernel) ?_
  refine lv_istore_n (lv' := [(2, .int 1), (3, .int 13), (0, .ref a0), (1, .int x0)]) hx hb dX10_sets_41 rfl hl (by decide) rfl (fun ls hl => ?_)
  refine lv_iinc (v := 14) (lv' := [(3, .int 14), (2, .int 1), (0, .ref a0), (1, .int x0)]) hx hb dX10_sets_42 hl (k := 1) rfl (by decide +kernel) (by decide) rfl (fun ls hl => ?_)
  refine lv_goto (tgt := 19) hx hb dX10_sets_45 (by decide) ?_
  refine lv_iload_n hx hb dX10_sets_19 rfl (lv_at hl 0 rfl) ?_
  refine lv_bipush (v := 64) hx hb dX10_sets_20 (by decide) ?_
  refine lv_icmp_ge (tgt := 48) hx hb dX10_sets_22 (by decide) (fun c_ => absurd c_ (by decide +kernel)) (fun _ => ?_)
  refine lv_iload_n hx hb dX10_sets_25 rfl (lv_at hl 1 rfl) ?_
  refine lv_aload_n hx hb dX10_sets_26 rfl (lv_at hl 2 rfl) ?_
  refine k_get hC hK hP iX10 2 61 wf_X10_218 rfl (by decide) rfl rfl dX10_sets_27 ?_
  refine lv_iload_n hx hb dX10_sets_30 rfl (lv_at hl 0 rfl) ?_
  refine k_zald (v := 0) hC hK hP 3 14 rfl (by decide +kernel) (by decide) (by decide +kernel) dX10_sets_31 ?_
  refine lv_if_eq (tgt := 39) hx hb dX10_sets_32 (by decide) (fun _ => ?_) (fun c_ => absurd (by decide +kernel) c_)
  refine lv_iconst (v := 0) hx hb dX10_sets_39 (by decide) ?_
  refine lv_iadd hx hb dX10_sets_40 ?_
  refine k_i 1 (by decide +kernel) ?_
  refine lv_istore_n (lv' := [(2, .int 1), (3, .int 14), (0, .ref a0), (1, .int x0)]) hx hb dX10_sets_41 rfl hl (by decide) rfl (fun ls hl => ?_)
  refine lv_iinc (v := 15) (lv' := [(3, .int 15), (2, .int 1), (0, .ref a0), (1, .int x0)]) hx hb dX10_sets_42 hl (k := 1) rfl (by decide +kernel) (by decide) rfl (fun ls hl => ?_)
  refine lv_goto (tgt := 19) hx hb dX10_sets_45 (by decide) ?_
  refine lv_iload_n hx hb dX10_sets_19 rfl (lv_at hl 0 rfl) ?_
  refine lv_bipush (v := 64) hx hb dX10_sets_20 (by decide) ?_
  refine lv_icmp_ge (tgt := 48) hx hb dX10_sets_22 (by decide) (fun c_ => absurd c_ (by decide +kernel)) (fun _ => ?_)
  refine lv_iload_n hx hb dX10_sets_25 rfl (lv_at hl 1 rfl) ?_
  refine lv_aload_n hx hb dX10_sets_26 rfl (lv_at hl 2 rfl) ?_
  refine k_get hC hK hP iX10 2 61 wf_X10_218 rfl (by decide) rfl rfl dX10_sets_27 ?_
  refine lv_iload_n hx hb dX10_sets_30 rfl (lv_at hl 0 rfl) ?_
  refine k_zald (v := 0) hC hK hP 3 15 rfl (by decide +kernel) (by decide) (by decide +kernel) dX10_sets_31 ?_
  refine lv_if_eq (tgt := 39) hx hb dX10_sets_32 (by decide) (fun _ => ?_) (fun c_ => absurd (by decide +kernel) c_)
  refine lv_iconst (v := 0) hx hb dX10_sets_39 (by decide) ?_
  refine lv_iadd hx hb dX10_sets_40 ?_
  refine k_i 1 (by decide +kernel) ?_
  refine lv_istore_n (lv' := [(2, .int 1), (3, .int 15), (0, .ref a0), (1, .int x0)]) hx hb dX10_sets_41 rfl hl (by decide) rfl (fun ls hl => ?_)
  refine lv_iinc (v := 16) (lv' := [(3, .int 16), (2, .int 1), (0, .ref a0), (1, .int x0)]) hx hb dX10_sets_42 hl (k := 1) rfl (by decide +kernel) (by decide) rfl (fun ls hl => ?_)
  refine lv_goto (tgt := 19) hx hb dX10_sets_45 (by decide) ?_
  refine lv_iload_n hx hb dX10_sets_19 rfl (lv_at hl 0 rfl) ?_
  refine lv_bipush (v := 64) hx hb dX10_sets_20 (by decide) ?_
  refine lv_icmp_ge (tgt := 48) hx hb dX10_sets_22 (by decide) (fun c_ => absurd c_ (by decide +kernel)) (fun _ => ?_)
  refine lv_iload_n hx hb dX10_sets_25 rfl (lv_at hl 1 rfl) ?_
  refine lv_aload_n hx hb dX10_sets_26 rfl (lv_at hl 2 rfl) ?_
  refine k_get hC hK hP iX10 2 61 wf_X10_218 rfl (by decide) rfl rfl dX10_sets_27 ?_
  refine lv_iload_n hx hb dX10_sets_30 rfl (lv_at hl 0 rfl) ?_
  refine k_zald (v := 0) hC hK hP 3 16 rfl (by decide +kernel) (by decide) (by decide +kernel) dX10_sets_31 ?_
  refine lv_if_eq (tgt := 39) hx hb dX10_sets_32 (by decide) (fun _ => ?_) (fun c_ => absurd (by decide +kernel) c_)
  refine lv_iconst (v := 0) hx hb dX10_sets_39 (by decide) ?_
  refine lv_iadd hx hb dX10_sets_40 ?_
  refine k_i 1 (by decide +kernel) ?_
  refine lv_istore_n (lv' := [(2, .int 1), (3, .int 16), (0, .ref a0), (1, .int x0)]) hx hb dX10_sets_41 rfl hl (by decide) rfl (fun ls hl => ?_)
  refine lv_iinc (v := 17) (lv' := [(3, .int 17), (2, .int 1), (0, .ref a0), (1, .int x0)]) hx hb dX10_sets_42 hl (k := 1) rfl (by decide +kernel) (by decide) rfl (fun ls hl => ?_)
  refine lv_goto (tgt := 19) hx hb dX10_sets_45 (by decide) ?_
  refine lv_iload_n hx hb dX10_sets_19 rfl (lv_at hl 0 rfl) ?_
  refine lv_bipush (v := 64) hx hb dX10_sets_20 (by decide) ?_
  refine lv_icmp_ge (tgt := 48) hx hb dX10_sets_22 (by decide) (fun c_ => absurd c_ (by decide +kernel)) (fun _ => ?_)
  refine lv_iload_n hx hb dX10_sets_25 rfl (lv_at hl 1 rfl) ?_
  refine lv_aload_n hx hb dX10_sets_26 rfl (lv_at hl 2 rfl) ?_
  refine k_get hC hK hP iX10 2 61 wf_X10_218 rfl (by decide) rfl rfl dX10_sets_27 ?_
  refine lv_iload_n hx hb dX10_sets_30 rfl (lv_at hl 0 rfl) ?_
  refine k_zald (v := 0) hC hK hP 3 17 rfl (by decide +kernel) (by decide) (by decide +kernel) dX10_sets_31 ?_
  refine lv_if_eq (tgt := 39) hx hb dX10_sets_32 (by decide) (fun _ => ?_) (fun c_ => absurd (by decide +kernel) c_)
  refine lv_iconst (v := 0) hx hb dX10_sets_39 (by decide) ?_
  refine lv_iadd hx hb dX10_sets_40 ?_
  refine k_i 1 (by decide +kernel) ?_
  refine lv_istore_n (lv' := [(2, .int 1), (3, .int 17), (0, .ref a0), (1, .int x0)]) hx hb dX10_sets_41 rfl hl (by decide) rfl (fun ls hl => ?_)
  refine lv_iinc (v := 18) (lv' := [(3, .int 18), (2, .int 1), (0, .ref a0), (1, .int x0)]) hx hb dX10_sets_42 hl (k := 1) rfl (by decide +kernel) (by decide) rfl (fun ls hl => ?_)
  refine lv_goto (tgt := 19) hx hb dX10_sets_45 (by decide) ?_
  refine lv_iload_n hx hb dX10_sets_19 rfl (lv_at hl 0 rfl) ?_
  refine lv_bipush (v := 64) hx hb dX10_sets_20 (by decide) ?_
  refine lv_icmp_ge (tgt := 48) hx hb dX10_sets_22 (by decide) (fun c_ => absurd c_ (by decide +kernel)) (fun _ => ?_)
  refine lv_iload_n hx hb dX10_sets_25 rfl (lv_at hl 1 rfl) ?_
  refine lv_aload_n hx hb dX10_sets_26 rfl (lv_at hl 2 rfl) ?_
  refine k_get hC hK hP iX10 2 61 wf_X10_218 rfl (by decide) rfl rfl dX10_sets_27 ?_
  refine lv_iload_n hx hb dX10_sets_30 rfl (lv_at hl 0 rfl) ?_
  refine k_zald (v := 0) hC hK hP 3 18 rfl (by decide +kernel) (by decide) (by decide +kernel) dX10_sets_31 ?_
  refine lv_if_eq (tgt := 39) hx hb dX10_sets_32 (by decide) (fun _ => ?_) (fun c_ => absurd (by decide +kernel) c_)
  refine lv_iconst (v := 0) hx hb dX10_sets_39 (by decide) ?_
  refine lv_iadd hx hb dX10_sets_40 ?_
  refine k_i 1 (by decide +kernel) ?_
  refine lv_istore_n (lv' := [(2, .int 1), (3, .int 18), (0, .ref a0), (1, .int x0)]) hx hb dX10_sets_41 rfl hl (by decide) rfl (fun ls hl => ?_)
  refine lv_iinc (v := 19) (lv' := [(3, .int 19), (2, .int 1), (0, .ref a0), (1, .int x0)]) hx hb dX10_sets_42 hl (k := 1) rfl (by decide +kernel) (by decide) rfl (fun ls hl => ?_)
  refine lv_goto (tgt := 19) hx hb dX10_sets_45 (by decide) ?_
  refine lv_iload_n hx hb dX10_sets_19 rfl (lv_at hl 0 rfl) ?_
  refine lv_bipush (v := 64) hx hb dX10_sets_20 (by decide) ?_
  refine lv_icmp_ge (tgt := 48) hx hb dX10_sets_22 (by decide) (fun c_ => absurd c_ (by decide +kernel)) (fun _ => ?_)
  refine lv_iload_n hx hb dX10_sets_25 rfl (lv_at hl 1 rfl) ?_
  refine lv_aload_n hx hb dX10_sets_26 rfl (lv_at hl 2 rfl) ?_
  refine k_get hC hK hP iX10 2 61 wf_X10_218 rfl (by decide) rfl rfl dX10_sets_27 ?_
  refine lv_iload_n hx hb dX10_sets_30 rfl (lv_at hl 0 rfl) ?_
  refine k_zald (v := 0) hC hK hP 3 19 rfl (by decide +kernel) (by decide) (by decide +kernel) dX10_sets_31 ?_
  refine lv_if_eq (tgt := 39) hx hb dX10_sets_32 (by decide) (fun _ => ?_) (fun c_ => absurd (by decide +kernel) c_)
  refine lv_iconst (v := 0) hx hb dX10_sets_39 (by decide) ?_
  refine lv_iadd hx hb dX10_sets_40 ?_
  refine k_i 1 (by decide +kernel) ?_
  refine lv_istore_n (lv' := [(2, .int 1), (3, .int 19), (0, .ref a0), (1, .int x0)]) hx hb dX10_sets_41 rfl hl (by decide) rfl (fun ls hl => ?_)
  refine lv_iinc (v := 20) (lv' := [(3, .int 20), (2, .int 1), (0, .ref a0), (1, .int x0)]) hx hb dX10_sets_42 hl (k := 1) rfl (by decide +kernel) (by decide) rfl (fun ls hl => ?_)
  refine lv_goto (tgt := 19) hx hb dX10_sets_45 (by decide) ?_
  refine lv_iload_n hx hb dX10_sets_19 rfl (lv_at hl 0 rfl) ?_
  refine lv_bipush (v := 64) hx hb dX10_sets_20 (by decide) ?_
  refine lv_icmp_ge (tgt := 48) hx hb dX10_sets_22 (by decide) (fun c_ => absurd c_ (by decide +kernel)) (fun _ => ?_)
  refine lv_iload_n hx hb dX10_sets_25 rfl (lv_at hl 1 rfl) ?_
  refine lv_aload_n hx hb dX10_sets_26 rfl (lv_at hl 2 rfl) ?_
  refine k_get hC hK hP iX10 2 61 wf_X10_218 rfl (by decide) rfl rfl dX10_sets_27 ?_
  refine lv_iload_n hx hb dX10_sets_30 rfl (lv_at hl 0 rfl) ?_
  refine k_zald (v := 0) hC hK hP 3 20 rfl (by decide +kernel) (by decide) (by decide +kernel) dX10_sets_31 ?_
  refine lv_if_eq (tgt := 39) hx hb dX10_sets_32 (by decide) (fun _ => ?_) (fun c_ => absurd (by decide +kernel) c_)
  refine lv_iconst (v := 0) hx hb dX10_sets_39 (by decide) ?_
  refine lv_iadd hx hb dX10_sets_40 ?_
  refine k_i 1 (by decide +kernel) ?_
  refine lv_istore_n (lv' := [(2, .int 1), (3, .int 20), (0, .ref a0), (1, .int x0)]) hx hb dX10_sets_41 rfl hl (by decide) rfl (fun ls hl => ?_)
  refine lv_iinc (v := 21) (lv' := [(3, .int 21), (2, .int 1), (0, .ref a0), (1, .int x0)]) hx hb dX10_sets_42 hl (k := 1) rfl (by decide +kernel) (by decide) rfl (fun ls hl => ?_)
  refine lv_goto (tgt := 19) hx hb dX10_sets_45 (by decide) ?_
  refine lv_iload_n hx hb dX10_sets_19 rfl (lv_at hl 0 rfl) ?_
  refine lv_bipush (v := 64) hx hb dX10_sets_20 (by decide) ?_
  refine lv_icmp_ge (tgt := 48) hx hb dX10_sets_22 (by decide) (fun c_ => absurd c_ (by decide +kernel)) (fun _ => ?_)
  refine lv_iload_n hx hb dX10_sets_25 rfl (lv_at hl 1 rfl) ?_
  refine lv_aload_n hx hb dX10_sets_26 rfl (lv_at hl 2 rfl) ?_
  refine k_get hC hK hP iX10 2 61 wf_X10_218 rfl (by decide) rfl rfl dX10_sets_27 ?_
  refine lv_iload_n hx hb dX10_sets_30 rfl (lv_at hl 0 rfl) ?_
  refine k_zald (v := 0) hC hK hP 3 21 rfl (by decide +kernel) (by decide) (by decide +kernel) dX10_sets_31 ?_
  refine lv_if_eq (tgt := 39) hx hb dX10_sets_32 (by decide) (fun _ => ?_) (fun c_ => absurd (by decide +kernel) c_)
  refine lv_iconst (v := 0) hx hb dX10_sets_39 (by decide) ?_
  refine lv_iadd hx hb dX10_sets_40 ?_
  refine k_i 1 (by decide +kernel) ?_
  refine lv_istore_n (lv' := [(2, .int 1), (3, .int 21), (0, .ref a0), (1, .int x0)]) hx hb dX10_sets_41 rfl hl (by decide) rfl (fun ls hl => ?_)
  refine lv_iinc (v := 22) (lv' := [(3, .int 22), (2, .int 1), (0, .ref a0), (1, .int x0)]) hx hb dX10_sets_42 hl (k := 1) rfl (by decide +kernel) (by decide) rfl (fun ls hl => ?_)
  refine lv_goto (tgt := 19) hx hb dX10_sets_45 (by decide) ?_
  refine lv_iload_n hx hb dX10_sets_19 rfl (lv_at hl 0 rfl) ?_
  refine lv_bipush (v := 64) hx hb dX10_sets_20 (by decide) ?_
  refine lv_icmp_ge (tgt := 48) hx hb dX10_sets_22 (by decide) (fun c_ => absurd c_ (by decide +kernel)) (fun _ => ?_)
  refine lv_iload_n hx hb dX10_sets_25 rfl (lv_at hl 1 rfl) ?_
  refine lv_aload_n hx hb dX10_sets_26 rfl (lv_at hl 2 rfl) ?_
  refine k_get hC hK hP iX10 2 61 wf_X10_218 rfl (by decide) rfl rfl dX10_sets_27 ?_
  refine lv_iload_n hx hb dX10_sets_30 rfl (lv_at hl 0 rfl) ?_
  refine k_zald (v := 0) hC hK hP 3 22 rfl (by decide +kernel) (by decide) (by decide +kernel) dX10_sets_31 ?_
  refine lv_if_eq (tgt := 39) hx hb dX10_sets_32 (by decide) (fun _ => ?_) (fun c_ => absurd (by decide +kernel) c_)
  refine lv_iconst (v := 0) hx hb dX10_sets_39 (by decide) ?_
  refine lv_iadd hx hb dX10_sets_40 ?_
  refine k_i 1 (by decide +kernel) ?_
  refine lv_istore_n (lv' := [(2, .int 1), (3, .int 22), (0, .ref a0), (1, .int x0)]) hx hb dX10_sets_41 rfl hl (by decide) rfl (fun ls hl => ?_)
  refine lv_iinc (v := 23) (lv' := [(3, .int 23), (2, .int 1), (0, .ref a0), (1, .int x0)]) hx hb dX10_sets_42 hl (k := 1) rfl (by decide +kernel) (by decide) rfl (fun ls hl => ?_)
  refine lv_goto (tgt := 19) hx hb dX10_sets_45 (by decide) ?_
  refine lv_iload_n hx hb dX10_sets_19 rfl (lv_at hl 0 rfl) ?_
  refine lv_bipush (v := 64) hx hb dX10_sets_20 (by decide) ?_
  refine lv_icmp_ge (tgt := 48) hx hb dX10_sets_22 (by decide) (fun c_ => absurd c_ (by decide +kernel)) (fun _ => ?_)
  refine lv_iload_n hx hb dX10_sets_25 rfl (lv_at hl 1 rfl) ?_
  refine lv_aload_n hx hb dX10_sets_26 rfl (lv_at hl 2 rfl) ?_
  refine k_get hC hK hP iX10 2 61 wf_X10_218 rfl (by decide) rfl rfl dX10_sets_27 ?_
  refine lv_iload_n hx hb dX10_sets_30 rfl (lv_at hl 0 rfl) ?_
  refine k_zald (v := 0) hC hK hP 3 23 rfl (by decide +kernel) (by decide) (by decide +kernel) dX10_sets_31 ?_
  refine lv_if_eq (tgt := 39) hx hb dX10_sets_32 (by decide) (fun _ => ?_) (fun c_ => absurd (by decide +kernel) c_)
  refine lv_iconst (v := 0) hx hb dX10_sets_39 (by decide) ?_
  refine lv_iadd hx hb dX10_sets_40 ?_
  refine k_i 1 (by decide +kernel) ?_
  refine lv_istore_n (lv' := [(2, .int 1), (3, .int 23), (0, .ref a0), (1, .int x0)]) hx hb dX10_sets_41 rfl hl (by decide) rfl (fun ls hl => ?_)
  refine lv_iinc (v := 24) (lv' := [(3, .int 24), (2, .int 1), (0, .ref a0), (1, .int x0)]) hx hb dX10_sets_42 hl (k := 1) rfl (by decide +kernel) (by decide) rfl (fun ls hl => ?_)
  refine lv_goto (tgt := 19) hx hb dX10_sets_45 (by decide) ?_
  refine lv_iload_n hx hb dX10_sets_19 rfl (lv_at hl 0 rfl) ?_
  refine lv_bipush (v := 64) hx hb dX10_sets_20 (by decide) ?_
  refine lv_icmp_ge (tgt := 48) hx hb dX10_sets_22 (by decide) (fun c_ => absurd c_ (by decide +kernel)) (fun _ => ?_)
  refine lv_iload_n hx hb dX10_sets_25 rfl (lv_at hl 1 rfl) ?_
  refine lv_aload_n hx hb dX10_sets_26 rfl (lv_at hl 2 rfl) ?_
  refine k_get hC hK hP iX10 2 61 wf_X10_218 rfl (by decide) rfl rfl dX10_sets_27 ?_
  refine lv_iload_n hx hb dX10_sets_30 rfl (lv_at hl 0 rfl) ?_
  refine k_zald (v := 0) hC hK hP 3 24 rfl (by decide +kernel) (by decide) (by decide +kernel) dX10_sets_31 ?_
  refine lv_if_eq (tgt := 39) hx hb dX10_sets_32 (by decide) (fun _ => ?_) (fun c_ => absurd (by decide +kernel) c_)
  refine lv_iconst (v := 0) hx hb dX10_sets_39 (by decide) ?_
  refine lv_iadd hx hb dX10_sets_40 ?_
  refine k_i 1 (by decide +kernel) ?_
  refine lv_istore_n (lv' := [(2, .int 1), (3, .int 24), (0, .ref a0), (1, .int x0)]) hx hb dX10_sets_41 rfl hl (by decide) rfl (fun ls hl => ?_)
  refine lv_iinc (v := 25) (lv' := [(3, .int 25), (2, .int 1), (0, .ref a0), (1, .int x0)]) hx hb dX10_sets_42 hl (k := 1) rfl (by decide +kernel) (by decide) rfl (fun ls hl => ?_)
  refine lv_goto (tgt := 19) hx hb dX10_sets_45 (by decide) ?_
  refine lv_iload_n hx hb dX10_sets_19 rfl (lv_at hl 0 rfl) ?_
  refine lv_bipush (v := 64) hx hb dX10_sets_20 (by decide) ?_
  refine lv_icmp_ge (tgt := 48) hx hb dX10_sets_22 (by decide) (fun c_ => absurd c_ (by decide +kernel)) (fun _ => ?_)
  refine lv_iload_n hx hb dX10_sets_25 rfl (lv_at hl 1 rfl) ?_
  refine lv_aload_n hx hb dX10_sets_26 rfl (lv_at hl 2 rfl) ?_
  refine k_get hC hK hP iX10 2 61 wf_X10_218 rfl (by decide) rfl rfl dX10_sets_27 ?_
  refine lv_iload_n hx hb dX10_sets_30 rfl (lv_at hl 0 rfl) ?_
  refine k_zald (v := 0) hC hK hP 3 25 rfl (by decide +kernel) (by decide) (by decide +kernel) dX10_sets_31 ?_
  refine lv_if_eq (tgt := 39) hx hb dX10_sets_32 (by decide) (fun _ => ?_) (fun c_ => absurd (by decide +kernel) c_)
  refine lv_iconst (v := 0) hx hb dX10_sets_39 (by decide) ?_
  refine lv_iadd hx hb dX10_sets_40 ?_
  refine k_i 1 (by decide +kernel) ?_
  refine lv_istore_n (lv' := [(2, .int 1), (3, .int 25), (0, .ref a0), (1, .int x0)]) hx hb dX10_sets_41 rfl hl (by decide) rfl (fun ls hl => ?_)
  refine lv_iinc (v := 26) (lv' := [(3, .int 26), (2, .int 1), (0, .ref a0), (1, .int x0)]) hx hb dX10_sets_42 hl (k := 1) rfl (by decide +kernel) (by decide) rfl (fun ls hl => ?_)
  refine lv_goto (tgt := 19) hx hb dX10_sets_45 (by decide) ?_
  refine lv_iload_n hx hb dX10_sets_19 rfl (lv_at hl 0 rfl) ?_
  refine lv_bipush (v := 64) hx hb dX10_sets_20 (by decide) ?_
  refine lv_icmp_ge (tgt := 48) hx hb dX10_sets_22 (by decide) (fun c_ => absurd c_ (by decide +kernel)) (fun _ => ?_)
  refine lv_iload_n hx hb dX10_sets_25 rfl (lv_at hl 1 rfl) ?_
  refine lv_aload_n hx hb dX10_sets_26 rfl (lv_at hl 2 rfl) ?_
  refine k_get hC hK hP iX10 2 61 wf_X10_218 rfl (by decide) rfl rfl dX10_sets_27 ?_
  refine lv_iload_n hx hb dX10_sets_30 rfl (lv_at hl 0 rfl) ?_
  refine k_zald (v := 0) hC hK hP 3 26 rfl (by decide +kernel) (by decide) (by decide +kernel) dX10_sets_31 ?_
  refine lv_if_eq (tgt := 39) hx hb dX10_sets_32 (by decide) (fun _ => ?_) (fun c_ => absurd (by decide +kernel) c_)
  refine lv_iconst (v := 0) hx hb dX10_sets_39 (by decide) ?_
  refine lv_iadd hx hb dX10_sets_40 ?_
  refine k_i 1 (by decide +kernel) ?_
  refine lv_istore_n (lv' := [(2, .int 1), (3, .int 26), (0, .ref a0), (1, .int x0)]) hx hb dX10_sets_41 rfl hl (by decide) rfl (fun ls hl => ?_)
  refine lv_iinc (v := 27) (lv' := [(3, .int 27), (2, .int 1), (0, .ref a0), (1, .int x0)]) hx hb dX10_sets_42 hl (k := 1) rfl (by decide +kernel) (by decide) rfl (fun ls hl => ?_)
  refine lv_goto (tgt := 19) hx hb dX10_sets_45 (by decide) ?_
  refine lv_iload_n hx hb dX10_sets_19 rfl (lv_at hl 0 rfl) ?_
  refine lv_bipush (v := 64) hx hb dX10_sets_20 (by decide) ?_
  refine lv_icmp_ge (tgt := 48) hx hb dX10_sets_22 (by decide) (fun c_ => absurd c_ (by decide +kernel)) (fun _ => ?_)
  refine lv_iload_n hx hb dX10_sets_25 rfl (lv_at hl 1 rfl) ?_
  refine lv_aload_n hx hb dX10_sets_26 rfl (lv_at hl 2 rfl) ?_
  refine k_get hC hK hP iX10 2 61 wf_X10_218 rfl (by decide) rfl rfl dX10_sets_27 ?_
  refine lv_iload_n hx hb dX10_sets_30 rfl (lv_at hl 0 rfl) ?_
  refine k_zald (v := 0) hC hK hP 3 27 rfl (by decide +kernel) (by decide) (by decide +kernel) dX10_sets_31 ?_
  refine lv_if_eq (tgt := 39) hx hb dX10_sets_32 (by decide) (fun _ => ?_) (fun c_ => absurd (by decide +kernel) c_)
  refine lv_iconst (v := 0) hx hb dX10_sets_39 (by decide) ?_
  refine lv_iadd hx hb dX10_sets_40 ?_
  refine k_i 1 (by decide +kernel) ?_
  refine lv_istore_n (lv' := [(2, .int 1), (3, .int 27), (0, .ref a0), (1, .int x0)]) hx hb dX10_sets_41 rfl hl (by decide) rfl (fun ls hl => ?_)
  refine lv_iinc (v := 28) (lv' := [(3, .int 28), (2, .int 1), (0, .ref a0), (1, .int x0)]) hx hb dX10_sets_42 hl (k := 1) rfl (by decide +kernel) (by decide) rfl (fun ls hl => ?_)
  refine lv_goto (tgt := 19) hx hb dX10_sets_45 (by decide) ?_
  refine lv_iload_n hx hb dX10_sets_19 rfl (lv_at hl 0 rfl) ?_
  refine lv_bipush (v := 64) hx hb dX10_sets_20 (by decide) ?_
  refine lv_icmp_ge (tgt := 48) hx hb dX10_sets_22 (by decide) (fun c_ => absurd c_ (by decide +kernel)) (fun _ => ?_)
  refine lv_iload_n hx hb dX10_sets_25 rfl (lv_at hl 1 rfl) ?_
  refine lv_aload_n hx hb dX10_sets_26 rfl (lv_at hl 2 rfl) ?_
  refine k_get hC hK hP iX10 2 61 wf_X10_218 rfl (by decide) rfl rfl dX10_sets_27 ?_
  refine lv_iload_n hx hb dX10_sets_30 rfl (lv_at hl 0 rfl) ?_
  refine k_zald (v := 0) hC hK hP 3 28 rfl (by decide +kernel) (by decide) (by decide +kernel) dX10_sets_31 ?_
  refine lv_if_eq (tgt := 39) hx hb dX10_sets_32 (by decide) (fun _ => ?_) (fun c_ => absurd (by decide +kernel) c_)
  refine lv_iconst (v := 0) hx hb dX10_sets_39 (by decide) ?_
  refine lv_iadd hx hb dX10_sets_40 ?_
  refine k_i 1 (by decide +kernel) ?_
  refine lv_istore_n (lv' := [(2, .int 1), (3, .int 28), (0, .ref a0), (1, .int x0)]) hx hb dX10_sets_41 rfl hl (by decide) rfl (fun ls hl => ?_)
  refine lv_iinc (v := 29) (lv' := [(3, .int 29), (2, .int 1), (0, .ref a0), (1, .int x0)]) hx hb dX10_sets_42 hl (k := 1) rfl (by decide +kernel) (by decide) rfl (fun ls hl => ?_)
  refine lv_goto (tgt := 19) hx hb dX10_sets_45 (by decide) ?_
  refine lv_iload_n hx hb dX10_sets_19 rfl (lv_at hl 0 rfl) ?_
  refine lv_bipush (v := 64) hx hb dX10_sets_20 (by decide) ?_
  refine lv_icmp_ge (tgt := 48) hx hb dX10_sets_22 (by decide) (fun c_ => absurd c_ (by decide +kernel)) (fun _ => ?_)
  refine lv_iload_n hx hb dX10_sets_25 rfl (lv_at hl 1 rfl) ?_
  refine lv_aload_n hx hb dX10_sets_26 rfl (lv_at hl 2 rfl) ?_
  refine k_get hC hK hP iX10 2 61 wf_X10_218 rfl (by decide) rfl rfl dX10_sets_27 ?_
  refine lv_iload_n hx hb dX10_sets_30 rfl (lv_at hl 0 rfl) ?_
  refine k_zald (v := 0) hC hK hP 3 29 rfl (by decide +kernel) (by decide) (by decide +kernel) dX10_sets_31 ?_
  refine lv_if_eq (tgt := 39) hx hb dX10_sets_32 (by decide) (fun _ => ?_) (fun c_ => absurd (by decide +kernel) c_)
  refine lv_iconst (v := 0) hx hb dX10_sets_39 (by decide) ?_
  refine lv_iadd hx hb dX10_sets_40 ?_
  refine k_i 1 (by decide +kernel) ?_
  refine lv_istore_n (lv' := [(2, .int 1), (3, .int 29), (0, .ref a0), (1, .int x0)]) hx hb dX10_sets_41 rfl hl (by decide) rfl (fun ls hl => ?_)
  refine lv_iinc (v := 30) (lv' := [(3, .int 30), (2, .int 1), (0, .ref a0), (1, .int x0)]) hx hb dX10_sets_42 hl (k := 1) rfl (by decide +kernel) (by decide) rfl (fun ls hl => ?_)
  refine lv_goto (tgt := 19) hx hb dX10_sets_45 (by decide) ?_
  refine lv_iload_n hx hb dX10_sets_19 rfl (lv_at hl 0 rfl) ?_
  refine lv_bipush (v := 64) hx hb dX10_sets_20 (by decide) ?_
  refine lv_icmp_ge (tgt := 48) hx hb dX10_sets_22 (by decide) (fun c_ => absurd c_ (by decide +kernel)) (fun _ => ?_)
  refine lv_iload_n hx hb dX10_sets_25 rfl (lv_at hl 1 rfl) ?_
  refine lv_aload_n hx hb dX10_sets_26 rfl (lv_at hl 2 rfl) ?_
  refine k_get hC hK hP iX10 2 61 wf_X10_218 rfl (by decide) rfl rfl dX10_sets_27 ?_
  refine lv_iload_n hx hb dX10_sets_30 rfl (lv_at hl 0 rfl) ?_
  refine k_zald (v := 0) hC hK hP 3 30 rfl (by decide +kernel) (by decide) (by decide +kernel) dX10_sets_31 ?_
  refine lv_if_eq (tgt := 39) hx hb dX10_sets_32 (by decide) (fun _ => ?_) (fun c_ => absurd (by decide +kernel) c_)
  refine lv_iconst (v := 0) hx hb dX10_sets_39 (by decide) ?_
  refine lv_iadd hx hb dX10_sets_40 ?_
  refine k_i 1 (by decide +kernel) ?_
  refine lv_istore_n (lv' := [(2, .int 1), (3, .int 30), (0, .ref a0), (1, .int x0)]) hx hb dX10_sets_41 rfl hl (by decide) rfl (fun ls hl => ?_)
  refine lv_iinc (v := 31) (lv' := [(3, .int 31), (2, .int 1), (0, .ref a0), (1, .int x0)]) hx hb dX10_sets_42 hl (k := 1) rfl (by decide +kernel) (by decide) rfl (fun ls hl => ?_)
  refine lv_goto (tgt := 19) hx hb dX10_sets_45 (by decide) ?_
  refine lv_iload_n hx hb dX10_sets_19 rfl (lv_at hl 0 rfl) ?_
  refine lv_bipush (v := 64) hx hb dX10_sets_20 (by decide) ?_
  refine lv_icmp_ge (tgt := 48) hx hb dX10_sets_22 (by decide) (fun c_ => absurd c_ (by decide +kernel)) (fun _ => ?_)
  refine lv_iload_n hx hb dX10_sets_25 rfl (lv_at hl 1 rfl) ?_
  refine lv_aload_n hx hb dX10_sets_26 rfl (lv_at hl 2 rfl) ?_
  refine k_get hC hK hP iX10 2 61 wf_X10_218 rfl (by decide) rfl rfl dX10_sets_27 ?_
  refine lv_iload_n hx hb dX10_sets_30 rfl (lv_at hl 0 rfl) ?_
  refine k_zald (v := 0) hC hK hP 3 31 rfl (by decide +kernel) (by decide) (by decide +kernel) dX10_sets_31 ?_
  refine lv_if_eq (tgt := 39) hx hb dX10_sets_32 (by decide) (fun _ => ?_) (fun c_ => absurd (by decide +kernel) c_)
  refine lv_iconst (v := 0) hx hb dX10_sets_39 (by decide) ?_
  refine lv_iadd hx hb dX10_sets_40 ?_
  refine k_i 1 (by decide +kernel) ?_
  refine lv_istore_n (lv' := [(2, .int 1), (3, .int 31), (0, .ref a0), (1, .int x0)]) hx hb dX10_sets_41 rfl hl (by decide) rfl (fun ls hl => ?_)
  refine lv_iinc (v := 32) (lv' := [(3, .int 32), (2, .int 1), (0, .ref a0), (1, .int x0)]) hx hb dX10_sets_42 hl (k := 1) rfl (by decide +kernel) (by decide) rfl (fun ls hl => ?_)
  refine lv_goto (tgt := 19) hx hb dX10_sets_45 (by decide) ?_
  refine lv_iload_n hx hb dX10_sets_19 rfl (lv_at hl 0 rfl) ?_
  refine lv_bipush (v := 64) hx hb dX10_sets_20 (by decide) ?_
  refine lv_icmp_ge (tgt := 48) hx hb dX10_sets_22 (by decide) (fun c_ => absurd c_ (by decide +kernel)) (fun _ => ?_)
  refine lv_iload_n hx hb dX10_sets_25 rfl (lv_at hl 1 rfl) ?_
  refine lv_aload_n hx hb dX10_sets_26 rfl (lv_at hl 2 rfl) ?_
  refine k_get hC hK hP iX10 2 61 wf_X10_218 rfl (by decide) rfl rfl dX10_sets_27 ?_
  refine lv_iload_n hx hb dX10_sets_30 rfl (lv_at hl 0 rfl) ?_
  refine k_zald (v := 0) hC hK hP 3 32 rfl (by decide +kernel) (by decide) (by decide +kernel) dX10_sets_31 ?_
  refine lv_if_eq (tgt := 39) hx hb dX10_sets_32 (by decide) (fun _ => ?_) (fun c_ => absurd (by decide +kernel) c_)
  refine lv_iconst (v := 0) hx hb dX10_sets_39 (by decide) ?_
  refine lv_iadd hx hb dX10_sets_40 ?_
  refine k_i 1 (by decide +kernel) ?_
  refine lv_istore_n (lv' := [(2, .int 1), (3, .int 32), (0, .ref a0), (1, .int x0)]) hx hb dX10_sets_41 rfl hl (by decide) rfl (fun ls hl => ?_)
  refine lv_iinc (v := 33) (lv' := [(3, .int 33), (2, .int 1), (0, .ref a0), (1, .int x0)]) hx hb dX10_sets_42 hl (k := 1) rfl (by decide +kernel) (by decide) rfl (fun ls hl => ?_)
  refine lv_goto (tgt := 19) hx hb dX10_sets_45 (by decide) ?_
  refine lv_iload_n hx hb dX10_sets_19 rfl (lv_at hl 0 rfl) ?_
  refine lv_bipush (v := 64) hx hb dX10_sets_20 (by decide) ?_
  refine lv_icmp_ge (tgt := 48) hx hb dX10_sets_22 (by decide) (fun c_ => absurd c_ (by decide +kernel)) (fun _ => ?_)
  refine lv_iload_n hx hb dX10_sets_25 rfl (lv_at hl 1 rfl) ?_
  refine lv_aload_n hx hb dX10_sets_26 rfl (lv_at hl 2 rfl) ?_
  refine k_get hC hK hP iX10 2 61 wf_X10_218 rfl (by decide) rfl rfl dX10_sets_27 ?_
  refine lv_iload_n hx hb dX10_sets_30 rfl (lv_at hl 0 rfl) ?_
  refine k_zald (v := 0) hC hK hP 3 33 rfl (by decide +kernel) (by decide) (by decide +kernel) dX10_sets_31 ?_
  refine lv_if_eq (tgt := 39) hx hb dX10_sets_32 (by decide) (fun _ => ?_) (fun c_ => absurd (by decide +kernel) c_)
  refine lv_iconst (v := 0) hx hb dX10_sets_39 (by decide) ?_
  refine lv_iadd hx hb dX10_sets_40 ?_
  refine k_i 1 (by decide +kernel) ?_
  refine lv_istore_n (lv' := [(2, .int 1), (3, .int 33), (0, .ref a0), (1, .int x0)]) hx hb dX10_sets_41 rfl hl (by decide) rfl (fun ls hl => ?_)
  refine lv_iinc (v := 34) (lv' := [(3, .int 34), (2, .int 1), (0, .ref a0), (1, .int x0)]) hx hb dX10_sets_42 hl (k := 1) rfl (by decide +kernel) (by decide) rfl (fun ls hl => ?_)
  refine lv_goto (tgt := 19) hx hb dX10_sets_45 (by decide) ?_
  refine lv_iload_n hx hb dX10_sets_19 rfl (lv_at hl 0 rfl) ?_
  refine lv_bipush (v := 64) hx hb dX10_sets_20 (by decide) ?_
  refine lv_icmp_ge (tgt := 48) hx hb dX10_sets_22 (by decide) (fun c_ => absurd c_ (by decide +kernel)) (fun _ => ?_)
  refine lv_iload_n hx hb dX10_sets_25 rfl (lv_at hl 1 rfl) ?_
  refine lv_aload_n hx hb dX10_sets_26 rfl (lv_at hl 2 rfl) ?_
  refine k_get hC hK hP iX10 2 61 wf_X10_218 rfl (by decide) rfl rfl dX10_sets_27 ?_
  refine lv_iload_n hx hb dX10_sets_30 rfl (lv_at hl 0 rfl) ?_
  refine k_zald (v := 0) hC hK hP 3 34 rfl (by decide +kernel) (by decide) (by decide +kernel) dX10_sets_31 ?_
  refine lv_if_eq (tgt := 39) hx hb dX10_sets_32 (by decide) (fun _ => ?_) (fun c_ => absurd (by decide +kernel) c_)
  refine lv_iconst (v := 0) hx hb dX10_sets_39 (by decide) ?_
  refine lv_iadd hx hb dX10_sets_40 ?_
  refine k_i 1 (by decide +kernel) ?_
  refine lv_istore_n (lv' := [(2, .int 1), (3, .int 34), (0, .ref a0), (1, .int x0)]) hx hb dX10_sets_41 rfl hl (by decide) rfl (fun ls hl => ?_)
  refine lv_iinc (v := 35) (lv' := [(3, .int 35), (2, .int 1), (0, .ref a0), (1, .int x0)]) hx hb dX10_sets_42 hl (k := 1) rfl (by decide +kernel) (by decide) rfl (fun ls hl => ?_)
  refine lv_goto (tgt := 19) hx hb dX10_sets_45 (by decide) ?_
  refine lv_iload_n hx hb dX10_sets_19 rfl (lv_at hl 0 rfl) ?_
  refine lv_bipush (v := 64) hx hb dX10_sets_20 (by decide) ?_
  refine lv_icmp_ge (tgt := 48) hx hb dX10_sets_22 (by decide) (fun c_ => absurd c_ (by decide +kernel)) (fun _ => ?_)
  refine lv_iload_n hx hb dX10_sets_25 rfl (lv_at hl 1 rfl) ?_
  refine lv_aload_n hx hb dX10_sets_26 rfl (lv_at hl 2 rfl) ?_
  refine k_get hC hK hP iX10 2 61 wf_X10_218 rfl (by decide) rfl rfl dX10_sets_27 ?_
  refine lv_iload_n hx hb dX10_sets_30 rfl (lv_at hl 0 rfl) ?_
  refine k_zald (v := 0) hC hK hP 3 35 rfl (by decide +kernel) (by decide) (by decide +kernel) dX10_sets_31 ?_
  refine lv_if_eq (tgt := 39) hx hb dX10_sets_32 (by decide) (fun _ => ?_) (fun c_ => absurd (by decide +kernel) c_)
  refine lv_iconst (v := 0) hx hb dX10_sets_39 (by decide) ?_
  refine lv_iadd hx hb dX10_sets_40 ?_
  refine k_i 1 (by decide +kernel) ?_
  refine lv_istore_n (lv' := [(2, .int 1), (3, .int 35), (0, .ref a0), (1, .int x0)]) hx hb dX10_sets_41 rfl hl (by decide) rfl (fun ls hl => ?_)
  refine lv_iinc (v := 36) (lv' := [(3, .int 36), (2, .int 1), (0, .ref a0), (1, .int x0)]) hx hb dX10_sets_42 hl (k := 1) rfl (by decide +kernel) (by decide) rfl (fun ls hl => ?_)
  refine lv_goto (tgt := 19) hx hb dX10_sets_45 (by decide) ?_
  refine lv_iload_n hx hb dX10_sets_19 rfl (lv_at hl 0 rfl) ?_
  refine lv_bipush (v := 64) hx hb dX10_sets_20 (by decide) ?_
  refine lv_icmp_ge (tgt := 48) hx hb dX10_sets_22 (by decide) (fun c_ => absurd c_ (by decide +kernel)) (fun _ => ?_)
  refine lv_iload_n hx hb dX10_sets_25 rfl (lv_at hl 1 rfl) ?_
  refine lv_aload_n hx hb dX10_sets_26 rfl (lv_at hl 2 rfl) ?_
  refine k_get hC hK hP iX10 2 61 wf_X10_218 rfl (by decide) rfl rfl dX10_sets_27 ?_
  refine lv_iload_n hx hb dX10_sets_30 rfl (lv_at hl 0 rfl) ?_
  refine k_zald (v := 0) hC hK hP 3 36 rfl (by decide +kernel) (by decide) (by decide +kernel) dX10_sets_31 ?_
  refine lv_if_eq (tgt := 39) hx hb dX10_sets_32 (by decide) (fun _ => ?_) (fun c_ => absurd (by decide +kernel) c_)
  refine lv_iconst (v := 0) hx hb dX10_sets_39 (by decide) ?_
  refine lv_iadd hx hb dX10_sets_40 ?_
  refine k_i 1 (by decide +kernel) ?_
  refine lv_istore_n (lv' := [(2, .int 1), (3, .int 36), (0, .ref a0), (1, .int x0)]) hx hb dX10_sets_41 rfl hl (by decide) rfl (fun ls hl => ?_)
  refine lv_iinc (v := 37) (lv' := [(3, .int 37), (2, .int 1), (0, .ref a0), (1, .int x0)]) hx hb dX10_sets_42 hl (k := 1) rfl (by decide +kernel) (by decide) rfl (fun ls hl => ?_)
  refine lv_goto (tgt := 19) hx hb dX10_sets_45 (by decide) ?_
  refine lv_iload_n hx hb dX10_sets_19 rfl (lv_at hl 0 rfl) ?_
  refine lv_bipush (v := 64) hx hb dX10_sets_20 (by decide) ?_
  refine lv_icmp_ge (tgt := 48) hx hb dX10_sets_22 (by decide) (fun c_ => absurd c_ (by decide +kernel)) (fun _ => ?_)
  refine lv_iload_n hx hb dX10_sets_25 rfl (lv_at hl 1 rfl) ?_
  refine lv_aload_n hx hb dX10_sets_26 rfl (lv_at hl 2 rfl) ?_
  refine k_get hC hK hP iX10 2 61 wf_X10_218 rfl (by decide) rfl rfl dX10_sets_27 ?_
  refine lv_iload_n hx hb dX10_sets_30 rfl (lv_at hl 0 rfl) ?_
  refine k_zald (v := 0) hC hK hP 3 37 rfl (by decide +kernel) (by decide) (by decide +kernel) dX10_sets_31 ?_
  refine lv_if_eq (tgt := 39) hx hb dX10_sets_32 (by decide) (fun _ => ?_) (fun c_ => absurd (by decide +kernel) c_)
  refine lv_iconst (v := 0) hx hb dX10_sets_39 (by decide) ?_
  refine lv_iadd hx hb dX10_sets_40 ?_
  refine k_i 1 (by decide +kernel) ?_
  refine lv_istore_n (lv' := [(2, .int 1), (3, .int 37), (0, .ref a0), (1, .int x0)]) hx hb dX10_sets_41 rfl hl (by decide) rfl (fun ls hl => ?_)
  refine lv_iinc (v := 38) (lv' := [(3, .int 38), (2, .int 1), (0, .ref a0), (1, .int x0)]) hx hb dX10_sets_42 hl (k := 1) rfl (by decide +kernel) (by decide) rfl (fun ls hl => ?_)
  refine lv_goto (tgt := 19) hx hb dX10_sets_45 (by decide) ?_
  refine lv_iload_n hx hb dX10_sets_19 rfl (lv_at hl 0 rfl) ?_
  refine lv_bipush (v := 64) hx hb dX10_sets_20 (by decide) ?_
  refine lv_icmp_ge (tgt := 48) hx hb dX10_sets_22 (by decide) (fun c_ => absurd c_ (by decide +kernel)) (fun _ => ?_)
  refine lv_iload_n hx hb dX10_sets_25 rfl (lv_at hl 1 rfl) ?_
  refine lv_aload_n hx hb dX10_sets_26 rfl (lv_at hl 2 rfl) ?_
  refine k_get hC hK hP iX10 2 61 wf_X10_218 rfl (by decide) rfl rfl dX10_sets_27 ?_
  refine lv_iload_n hx hb dX10_sets_30 rfl (lv_at hl 0 rfl) ?_
  refine k_zald (v := 0) hC hK hP 3 38 rfl (by decide +kernel) (by decide) (by decide +kernel) dX10_sets_31 ?_
  refine lv_if_eq (tgt := 39) hx hb dX10_sets_32 (by decide) (fun _ => ?_) (fun c_ => absurd (by decide +kernel) c_)
  refine lv_iconst (v := 0) hx hb dX10_sets_39 (by decide) ?_
  refine lv_iadd hx hb dX10_sets_40 ?_
  refine k_i 1 (by decide +kernel) ?_
  refine lv_istore_n (lv' := [(2, .int 1), (3, .int 38), (0, .ref a0), (1, .int x0)]) hx hb dX10_sets_41 rfl hl (by decide) rfl (fun ls hl => ?_)
  refine lv_iinc (v := 39) (lv' := [(3, .int 39), (2, .int 1), (0, .ref a0), (1, .int x0)]) hx hb dX10_sets_42 hl (k := 1) rfl (by decide +kernel) (by decide) rfl (fun ls hl => ?_)
  refine lv_goto (tgt := 19) hx hb dX10_sets_45 (by decide) ?_
  refine lv_iload_n hx hb dX10_sets_19 rfl (lv_at hl 0 rfl) ?_
  refine lv_bipush (v := 64) hx hb dX10_sets_20 (by decide) ?_
  refine lv_icmp_ge (tgt := 48) hx hb dX10_sets_22 (by decide) (fun c_ => absurd c_ (by decide +kernel)) (fun _ => ?_)
  refine lv_iload_n hx hb dX10_sets_25 rfl (lv_at hl 1 rfl) ?_
  refine lv_aload_n hx hb dX10_sets_26 rfl (lv_at hl 2 rfl) ?_
  refine k_get hC hK hP iX10 2 61 wf_X10_218 rfl (by decide) rfl rfl dX10_sets_27 ?_
  refine lv_iload_n hx hb dX10_sets_30 rfl (lv_at hl 0 rfl) ?_
  refine k_zald (v := 0) hC hK hP 3 39 rfl (by decide +kernel) (by decide) (by decide +kernel) dX10_sets_31 ?_
  refine lv_if_eq (tgt := 39) hx hb dX10_sets_32 (by decide) (fun _ => ?_) (fun c_ => absurd (by decide +kernel) c_)
  refine lv_iconst (v := 0) hx hb dX10_sets_39 (by decide) ?_
  refine lv_iadd hx hb dX10_sets_40 ?_
  refine k_i 1 (by decide +kernel) ?_
  refine lv_istore_n (lv' := [(2, .int 1), (3, .int 39), (0, .ref a0), (1, .int x0)]) hx hb dX10_sets_41 rfl hl (by decide) rfl (fun ls hl => ?_)
  refine lv_iinc (v := 40) (lv' := [(3, .int 40), (2, .int 1), (0, .ref a0), (1, .int x0)]) hx hb dX10_sets_42 hl (k := 1) rfl (by decide +kernel) (by decide) rfl (fun ls hl => ?_)
  refine lv_goto (tgt := 19) hx hb dX10_sets_45 (by decide) ?_
  refine lv_iload_n hx hb dX10_sets_19 rfl (lv_at hl 0 rfl) ?_
  refine lv_bipush (v := 64) hx hb dX10_sets_20 (by decide) ?_
  refine lv_icmp_ge (tgt := 48) hx hb dX10_sets_22 (by decide) (fun c_ => absurd c_ (by decide +kernel)) (fun _ => ?_)
  refine lv_iload_n hx hb dX10_sets_25 rfl (lv_at hl 1 rfl) ?_
  refine lv_aload_n hx hb dX10_sets_26 rfl (lv_at hl 2 rfl) ?_
  refine k_get hC hK hP iX10 2 61 wf_X10_218 rfl (by decide) rfl rfl dX10_sets_27 ?_
  refine lv_iload_n hx hb dX10_sets_30 rfl (lv_at hl 0 rfl) ?_
  refine k_zald (v := 0) hC hK hP 3 40 rfl (by decide +kernel) (by decide) (by decide +kernel) dX10_sets_31 ?_
  refine lv_if_eq (tgt := 39) hx hb dX10_sets_32 (by decide) (fun _ => ?_) (fun c_ => absurd (by decide +kernel) c_)
  refine lv_iconst (v := 0) hx hb dX10_sets_39 (by decide) ?_
  refine lv_iadd hx hb dX10_sets_40 ?_
  refine k_i 1 (by decide +kernel) ?_
  refine lv_istore_n (lv' := [(2, .int 1), (3, .int 40), (0, .ref a0), (1, .int x0)]) hx hb dX10_sets_41 rfl hl (by decide) rfl (fun ls hl => ?_)
  refine lv_iinc (v := 41) (lv' := [(3, .int 41), (2, .int 1), (0, .ref a0), (1, .int x0)]) hx hb dX10_sets_42 hl (k := 1) rfl (by decide +kernel) (by decide) rfl (fun ls hl => ?_)
  refine lv_goto (tgt := 19) hx hb dX10_sets_45 (by decide) ?_
  refine lv_iload_n hx hb dX10_sets_19 rfl (lv_at hl 0 rfl) ?_
  refine lv_bipush (v := 64) hx hb dX10_sets_20 (by decide) ?_
  refine lv_icmp_ge (tgt := 48) hx hb dX10_sets_22 (by decide) (fun c_ => absurd c_ (by decide +kernel)) (fun _ => ?_)
  refine lv_iload_n hx hb dX10_sets_25 rfl (lv_at hl 1 rfl) ?_
  refine lv_aload_n hx hb dX10_sets_26 rfl (lv_at hl 2 rfl) ?_
  refine k_get hC hK hP iX10 2 61 wf_X10_218 rfl (by decide) rfl rfl dX10_sets_27 ?_
  refine lv_iload_n hx hb dX10_sets_30 rfl (lv_at hl 0 rfl) ?_
  refine k_zald (v := 0) hC hK hP 3 41 rfl (by decide +kernel) (by decide) (by decide +kernel) dX10_sets_31 ?_
  refine lv_if_eq (tgt := 39) hx hb dX10_sets_32 (by decide) (fun _ => ?_) (fun c_ => absurd (by decide +kernel) c_)
  refine lv_iconst (v := 0) hx hb dX10_sets_39 (by decide) ?_
  refine lv_iadd hx hb dX10_sets_40 ?_
  refine k_i 1 (by decide +kernel) ?_
  refine lv_istore_n (lv' := [(2, .int 1), (3, .int 41), (0, .ref a0), (1, .int x0)]) hx hb dX10_sets_41 rfl hl (by decide) rfl (fun ls hl => ?_)
  refine lv_iinc (v := 42) (lv' := [(3, .int 42), (2, .int 1), (0, .ref a0), (1, .int x0)]) hx hb dX10_sets_42 hl (k := 1) rfl (by decide +kernel) (by decide) rfl (fun ls hl => ?_)
  refine lv_goto (tgt := 19) hx hb dX10_sets_45 (by decide) ?_
  refine lv_iload_n hx hb dX10_sets_19 rfl (lv_at hl 0 rfl) ?_
  refine lv_bipush (v := 64) hx hb dX10_sets_20 (by decide) ?_
  refine lv_icmp_ge (tgt := 48) hx hb dX10_sets_22 (by decide) (fun c_ => absurd c_ (by decide +kernel)) (fun _ => ?_)
  refine lv_iload_n hx hb dX10_sets_25 rfl (lv_at hl 1 rfl) ?_
  refine lv_aload_n hx hb dX10_sets_26 rfl (lv_at hl 2 rfl) ?_
  refine k_get hC hK hP iX10 2 61 wf_X10_218 rfl (by decide) rfl rfl dX10_sets_27 ?_
  refine lv_iload_n hx hb dX10_sets_30 rfl (lv_at hl 0 rfl) ?_
  refine k_zald (v := 0) hC hK hP 3 42 rfl (by decide +kernel) (by decide) (by decide +kernel) dX10_sets_31 ?_
  refine lv_if_eq (tgt := 39) hx hb dX10_sets_32 (by decide) (fun _ => ?_) (fun c_ => absurd (by decide +kernel) c_)
  refine lv_iconst (v := 0) hx hb dX10_sets_39 (by decide) ?_
  refine lv_iadd hx hb dX10_sets_40 ?_
  refine k_i 1 (by decide +kernel) ?_
  refine lv_istore_n (lv' := [(2, .int 1), (3, .int 42), (0, .ref a0), (1, .int x0)]) hx hb dX10_sets_41 rfl hl (by decide) rfl (fun ls hl => ?_)
  refine lv_iinc (v := 43) (lv' := [(3, .int 43), (2, .int 1), (0, .ref a0), (1, .int x0)]) hx hb dX10_sets_42 hl (k := 1) rfl (by decide +kernel) (by decide) rfl (fun ls hl => ?_)
  refine lv_goto (tgt := 19) hx hb dX10_sets_45 (by decide) ?_
  refine lv_iload_n hx hb dX10_sets_19 rfl (lv_at hl 0 rfl) ?_
  refine lv_bipush (v := 64) hx hb dX10_sets_20 (by decide) ?_
  refine lv_icmp_ge (tgt := 48) hx hb dX10_sets_22 (by decide) (fun c_ => absurd c_ (by decide +kernel)) (fun _ => ?_)
  refine lv_iload_n hx hb dX10_sets_25 rfl (lv_at hl 1 rfl) ?_
  refine lv_aload_n hx hb dX10_sets_26 rfl (lv_at hl 2 rfl) ?_
  refine k_get hC hK hP iX10 2 61 wf_X10_218 rfl (by decide) rfl rfl dX10_sets_27 ?_
  refine lv_iload_n hx hb dX10_sets_30 rfl (lv_at hl 0 rfl) ?_
  refine k_zald (v := 0) hC hK hP 3 43 rfl (by decide +kernel) (by decide) (by decide +kernel) dX10_sets_31 ?_
  refine lv_if_eq (tgt := 39) hx hb dX10_sets_32 (by decide) (fun _ => ?_) (fun c_ => absurd (by decide +kernel) c_)
  refine lv_iconst (v := 0) hx hb dX10_sets_39 (by decide) ?_
  refine lv_iadd hx hb dX10_sets_40 ?_
  refine k_i 1 (by decide +kernel) ?_
  refine lv_istore_n (lv' := [(2, .int 1), (3, .int 43), (0, .ref a0), (1, .int x0)]) hx hb dX10_sets_41 rfl hl (by decide) rfl (fun ls hl => ?_)
  refine lv_iinc (v := 44) (lv' := [(3, .int 44), (2, .int 1), (0, .ref a0), (1, .int x0)]) hx hb dX10_sets_42 hl (k := 1) rfl (by decide +kernel) (by decide) rfl (fun ls hl => ?_)
  refine lv_goto (tgt := 19) hx hb dX10_sets_45 (by decide) ?_
  refine lv_iload_n hx hb dX10_sets_19 rfl (lv_at hl 0 rfl) ?_
  refine lv_bipush (v := 64) hx hb dX10_sets_20 (by decide) ?_
  refine lv_icmp_ge (tgt := 48) hx hb dX10_sets_22 (by decide) (fun c_ => absurd c_ (by decide +kernel)) (fun _ => ?_)
  refine lv_iload_n hx hb dX10_sets_25 rfl (lv_at hl 1 rfl) ?_
  refine lv_aload_n hx hb dX10_sets_26 rfl (lv_at hl 2 rfl) ?_
  refine k_get hC hK hP iX10 2 61 wf_X10_218 rfl (by decide) rfl rfl dX10_sets_27 ?_
  refine lv_iload_n hx hb dX10_sets_30 rfl (lv_at hl 0 rfl) ?_
  refine k_zald (v := 0) hC hK hP 3 44 rfl (by decide +kernel) (by decide) (by decide +kernel) dX10_sets_31 ?_
  refine lv_if_eq (tgt := 39) hx hb dX10_sets_32 (by decide) (fun _ => ?_) (fun c_ => absurd (by decide +kernel) c_)
  refine lv_iconst (v := 0) hx hb dX10_sets_39 (by decide) ?_
  refine lv_iadd hx hb dX10_sets_40 ?_
  refine k_i 1 (by decide +kernel) ?_
  refine lv_istore_n (lv' := [(2, .int 1), (3, .int 44), (0, .ref a0), (1, .int x0)]) hx hb dX10_sets_41 rfl hl (by decide) rfl (fun ls hl => ?_)
  refine lv_iinc (v := 45) (lv' := [(3, .int 45), (2, .int 1), (0, .ref a0), (1, .int x0)]) hx hb dX10_sets_42 hl (k := 1) rfl (by decide +kernel) (by decide) rfl (fun ls hl => ?_)
  refine lv_goto (tgt := 19) hx hb dX10_sets_45 (by decide) ?_
  refine lv_iload_n hx hb dX10_sets_19 rfl (lv_at hl 0 rfl) ?_
  refine lv_bipush (v := 64) hx hb dX10_sets_20 (by decide) ?_
  refine lv_icmp_ge (tgt := 48) hx hb dX10_sets_22 (by decide) (fun c_ => absurd c_ (by decide +kernel)) (fun _ => ?_)
  refine lv_iload_n hx hb dX10_sets_25 rfl (lv_at hl 1 rfl) ?_
  refine lv_aload_n hx hb dX10_sets_26 rfl (lv_at hl 2 rfl) ?_
  refine k_get hC hK hP iX10 2 61 wf_X10_218 rfl (by decide) rfl rfl dX10_sets_27 ?_
  refine lv_iload_n hx hb dX10_sets_30 rfl (lv_at hl 0 rfl) ?_
  refine k_zald (v := 0) hC hK hP 3 45 rfl (by decide +kernel) (by decide) (by decide +kernel) dX10_sets_31 ?_
  refine lv_if_eq (tgt := 39) hx hb dX10_sets_32 (by decide) (fun _ => ?_) (fun c_ => absurd (by decide +kernel) c_)
  refine lv_iconst (v := 0) hx hb dX10_sets_39 (by decide) ?_
  refine lv_iadd hx hb dX10_sets_40 ?_
  refine k_i 1 (by decide +kernel) ?_
  refine lv_istore_n (lv' := [(2, .int 1), (3, .int 45), (0, .ref a0), (1, .int x0)]) hx hb dX10_sets_41 rfl hl (by decide) rfl (fun ls hl => ?_)
  refine lv_iinc (v := 46) (lv' := [(3, .int 46), (2, .int 1), (0, .ref a0), (1, .int x0)]) hx hb dX10_sets_42 hl (k := 1) rfl (by decide +kernel) (by decide) rfl (fun ls hl => ?_)
  refine lv_goto (tgt := 19) hx hb dX10_sets_45 (by decide) ?_
  refine lv_iload_n hx hb dX10_sets_19 rfl (lv_at hl 0 rfl) ?_
  refine lv_bipush (v := 64) hx hb dX10_sets_20 (by decide) ?_
  refine lv_icmp_ge (tgt := 48) hx hb dX10_sets_22 (by decide) (fun c_ => absurd c_ (by decide +kernel)) (fun _ => ?_)
  refine lv_iload_n hx hb dX10_sets_25 rfl (lv_at hl 1 rfl) ?_
  refine lv_aload_n hx hb dX10_sets_26 rfl (lv_at hl 2 rfl) ?_
  refine k_get hC hK hP iX10 2 61 wf_X10_218 rfl (by decide) rfl rfl dX10_sets_27 ?_
  refine lv_iload_n hx hb dX10_sets_30 rfl (lv_at hl 0 rfl) ?_
  refine k_zald (v := 0) hC hK hP 3 46 rfl (by decide +kernel) (by decide) (by decide +kernel) dX10_sets_31 ?_
  refine lv_if_eq (tgt := 39) hx hb dX10_sets_32 (by decide) (fun _ => ?_) (fun c_ => absurd (by decide +kernel) c_)
  refine lv_iconst (v := 0) hx hb dX10_sets_39 (by decide) ?_
  refine lv_iadd hx hb dX10_sets_40 ?_
  refine k_i 1 (by decide +kernel) ?_
  refine lv_istore_n (lv' := [(2, .int 1), (3, .int 46), (0, .ref a0), (1, .int x0)]) hx hb dX10_sets_41 rfl hl (by decide) rfl (fun ls hl => ?_)
  refine lv_iinc (v := 47) (lv' := [(3, .int 47), (2, .int 1), (0, .ref a0), (1, .int x0)]) hx hb dX10_sets_42 hl (k := 1) rfl (by decide +kernel) (by decide) rfl (fun ls hl => ?_)
  refine lv_goto (tgt := 19) hx hb dX10_sets_45 (by decide) ?_
  refine lv_iload_n hx hb dX10_sets_19 rfl (lv_at hl 0 rfl) ?_
  refine lv_bipush (v := 64) hx hb dX10_sets_20 (by decide) ?_
  refine lv_icmp_ge (tgt := 48) hx hb dX10_sets_22 (by decide) (fun c_ => absurd c_ (by decide +kernel)) (fun _ => ?_)
  refine lv_iload_n hx hb dX10_sets_25 rfl (lv_at hl 1 rfl) ?_
  refine lv_aload_n hx hb dX10_sets_26 rfl (lv_at hl 2 rfl) ?_
  refine k_get hC hK hP iX10 2 61 wf_X10_218 rfl (by decide) rfl rfl dX10_sets_27 ?_
  refine lv_iload_n hx hb dX10_sets_30 rfl (lv_at hl 0 rfl) ?_
  refine k_zald (v := 0) hC hK hP 3 47 rfl (by decide +kernel) (by decide) (by decide +kernel) dX10_sets_31 ?_
  refine lv_if_eq (tgt := 39) hx hb dX10_sets_32 (by decide) (fun _ => ?_) (fun c_ => absurd (by decide +kernel) c_)
  refine lv_iconst (v := 0) hx hb dX10_sets_39 (by decide) ?_
  refine lv_iadd hx hb dX10_sets_40 ?_
  refine k_i 1 (by decide +kernel) ?_
  refine lv_istore_n (lv' := [(2, .int 1), (3, .int 47), (0, .ref a0), (1, .int x0)]) hx hb dX10_sets_41 rfl hl (by decide) rfl (fun ls hl => ?_)
  refine lv_iinc (v := 48) (lv' := [(3, .int 48), (2, .int 1), (0, .ref a0), (1, .int x0)]) hx hb dX10_sets_42 hl (k := 1) rfl (by decide +kernel) (by decide) rfl (fun ls hl => ?_)
  refine lv_goto (tgt := 19) hx hb dX10_sets_45 (by decide) ?_
  refine lv_iload_n hx hb dX10_sets_19 rfl (lv_at hl 0 rfl) ?_
  refine lv_bipush (v := 64) hx hb dX10_sets_20 (by decide) ?_
  refine lv_icmp_ge (tgt := 48) hx hb dX10_sets_22 (by decide) (fun c_ => absurd c_ (by decide +kernel)) (fun _ => ?_)
  refine lv_iload_n hx hb dX10_sets_25 rfl (lv_at hl 1 rfl) ?_
  refine lv_aload_n hx hb dX10_sets_26 rfl (lv_at hl 2 rfl) ?_
  refine k_get hC hK hP iX10 2 61 wf_X10_218 rfl (by decide) rfl rfl dX10_sets_27 ?_
  refine lv_iload_n hx hb dX10_sets_30 rfl (lv_at hl 0 rfl) ?_
  refine k_zald (v := 0) hC hK hP 3 48 rfl (by decide +kernel) (by decide) (by decide +kernel) dX10_sets_31 ?_
  refine lv_if_eq (tgt := 39) hx hb dX10_sets_32 (by decide) (fun _ => ?_) (fun c_ => absurd (by decide +kernel) c_)
  refine lv_iconst (v := 0) hx hb dX10_sets_39 (by decide) ?_
  refine lv_iadd hx hb dX10_sets_40 ?_
  refine k_i 1 (by decide +kernel) ?_
  refine lv_istore_n (lv' := [(2, .int 1), (3, .int 48), (0, .ref a0), (1, .int x0)]) hx hb dX10_sets_41 rfl hl (by decide) rfl (fun ls hl => ?_)
  refine lv_iinc (v := 49) (lv' := [(3, .int 49), (2, .int 1), (0, .ref a0), (1, .int x0)]) hx hb dX10_sets_42 hl (k := 1) rfl (by decide +kernel) (by decide) rfl (fun ls hl => ?_)
  refine lv_goto (tgt := 19) hx hb dX10_sets_45 (by decide) ?_
  refine lv_iload_n hx hb dX10_sets_19 rfl (lv_at hl 0 rfl) ?_
  refine lv_bipush (v := 64) hx hb dX10_sets_20 (by decide) ?_
  refine lv_icmp_ge (tgt := 48) hx hb dX10_sets_22 (by decide) (fun c_ => absurd c_ (by decide +kernel)) (fun _ => ?_)
  refine lv_iload_n hx hb dX10_sets_25 rfl (lv_at hl 1 rfl) ?_
  refine lv_aload_n hx hb dX10_sets_26 rfl (lv_at hl 2 rfl) ?_
  refine k_get hC hK hP iX10 2 61 wf_X10_218 rfl (by decide) rfl rfl dX10_sets_27 ?_
  refine lv_iload_n hx hb dX10_sets_30 rfl (lv_at hl 0 rfl) ?_
  refine k_zald (v := 0) hC hK hP 3 49 rfl (by decide +kernel) (by decide) (by decide +kernel) dX10_sets_31 ?_
  refine lv_if_eq (tgt := 39) hx hb dX10_sets_32 (by decide) (fun _ => ?_) (fun c_ => absurd (by decide +kernel) c_)
  refine lv_iconst (v := 0) hx hb dX10_sets_39 (by decide) ?_
  refine lv_iadd hx hb dX10_sets_40 ?_
  refine k_i 1 (by decide +kernel) ?_
  refine lv_istore_n (lv' := [(2, .int 1), (3, .int 49), (0, .ref a0), (1, .int x0)]) hx hb dX10_sets_41 rfl hl (by decide) rfl (fun ls hl => ?_)
  refine lv_iinc (v := 50) (lv' := [(3, .int 50), (2, .int 1), (0, .ref a0), (1, .int x0)]) hx hb dX10_sets_42 hl (k := 1) rfl (by decide +kernel) (by decide) rfl (fun ls hl => ?_)
  refine lv_goto (tgt := 19) hx hb dX10_sets_45 (by decide) ?_
  refine lv_iload_n hx hb dX10_sets_19 rfl (lv_at hl 0 rfl) ?_
  refine lv_bipush (v := 64) hx hb dX10_sets_20 (by decide) ?_
  refine lv_icmp_ge (tgt := 48) hx hb dX10_sets_22 (by decide) (fun c_ => absurd c_ (by decide +kernel)) (fun _ => ?_)
  refine lv_iload_n hx hb dX10_sets_25 rfl (lv_at hl 1 rfl) ?_
  refine lv_aload_n hx hb dX10_sets_26 rfl (lv_at hl 2 rfl) ?_
  refine k_get hC hK hP iX10 2 61 wf_X10_218 rfl (by decide) rfl rfl dX10_sets_27 ?_
  refine lv_iload_n hx hb dX10_sets_30 rfl (lv_at hl 0 rfl) ?_
  refine k_zald (v := 0) hC hK hP 3 50 rfl (by decide +kernel) (by decide) (by decide +kernel) dX10_sets_31 ?_
  refine lv_if_eq (tgt := 39) hx hb dX10_sets_32 (by decide) (fun _ => ?_) (fun c_ => absurd (by decide +kernel) c_)
  refine lv_iconst (v := 0) hx hb dX10_sets_39 (by decide) ?_
  refine lv_iadd hx hb dX10_sets_40 ?_
  refine k_i 1 (by decide +kernel) ?_
  refine lv_istore_n (lv' := [(2, .int 1), (3, .int 50), (0, .ref a0), (1, .int x0)]) hx hb dX10_sets_41 rfl hl (by decide) rfl (fun ls hl => ?_)
  refine lv_iinc (v := 51) (lv' := [(3, .int 51), (2, .int 1), (0, .ref a0), (1, .int x0)]) hx hb dX10_sets_42 hl (k := 1) rfl (by decide +kernel) (by decide) rfl (fun ls hl => ?_)
  refine lv_goto (tgt := 19) hx hb dX10_sets_45 (by decide) ?_
  refine lv_iload_n hx hb dX10_sets_19 rfl (lv_at hl 0 rfl) ?_
  refine lv_bipush (v := 64) hx hb dX10_sets_20 (by decide) ?_
  refine lv_icmp_ge (tgt := 48) hx hb dX10_sets_22 (by decide) (fun c_ => absurd c_ (by decide +kernel)) (fun _ => ?_)
  refine lv_iload_n hx hb dX10_sets_25 rfl (lv_at hl 1 rfl) ?_
  refine lv_aload_n hx hb dX10_sets_26 rfl (lv_at hl 2 rfl) ?_
  refine k_get hC hK hP iX10 2 61 wf_X10_218 rfl (by decide) rfl rfl dX10_sets_27 ?_
  refine lv_iload_n hx hb dX10_sets_30 rfl (lv_at hl 0 rfl) ?_
  refine k_zald (v := 0) hC hK hP 3 51 rfl (by decide +kernel) (by decide) (by decide +kernel) dX10_sets_31 ?_
  refine lv_if_eq (tgt := 39) hx hb dX10_sets_32 (by decide) (fun _ => ?_) (fun c_ => absurd (by decide +kernel) c_)
  refine lv_iconst (v := 0) hx hb dX10_sets_39 (by decide) ?_
  refine lv_iadd hx hb dX10_sets_40 ?_
  refine k_i 1 (by decide +kernel) ?_
  refine lv_istore_n (lv' := [(2, .int 1), (3, .int 51), (0, .ref a0), (1, .int x0)]) hx hb dX10_sets_41 rfl hl (by decide) rfl (fun ls hl => ?_)
  refine lv_iinc (v := 52) (lv' := [(3, .int 52), (2, .int 1), (0, .ref a0), (1, .int x0)]) hx hb dX10_sets_42 hl (k := 1) rfl (by decide +kernel) (by decide) rfl (fun ls hl => ?_)
  refine lv_goto (tgt := 19) hx hb dX10_sets_45 (by decide) ?_
  refine lv_iload_n hx hb dX10_sets_19 rfl (lv_at hl 0 rfl) ?_
  refine lv_bipush (v := 64) hx hb dX10_sets_20 (by decide) ?_
  refine lv_icmp_ge (tgt := 48) hx hb dX10_sets_22 (by decide) (fun c_ => absurd c_ (by decide +kernel)) (fun _ => ?_)
  refine lv_iload_n hx hb dX10_sets_25 rfl (lv_at hl 1 rfl) ?_
  refine lv_aload_n hx hb dX10_sets_26 rfl (lv_at hl 2 rfl) ?_
  refine k_get hC hK hP iX10 2 61 wf_X10_218 rfl (by decide) rfl rfl dX10_sets_27 ?_
  refine lv_iload_n hx hb dX10_sets_30 rfl (lv_at hl 0 rfl) ?_
  refine k_zald (v := 0) hC hK hP 3 52 rfl (by decide +kernel) (by decide) (by decide +kernel) dX10_sets_31 ?_
  refine lv_if_eq (tgt := 39) hx hb dX10_sets_32 (by decide) (fun _ => ?_) (fun c_ => absurd (by decide +kernel) c_)
  refine lv_iconst (v := 0) hx hb dX10_sets_39 (by decide) ?_
  refine lv_iadd hx hb dX10_sets_40 ?_
  refine k_i 1 (by decide +kernel) ?_
  refine lv_istore_n (lv' := [(2, .int 1), (3, .int 52), (0, .ref a0), (1, .int x0)]) hx hb dX10_sets_41 rfl hl (by decide) rfl (fun ls hl => ?_)
  refine lv_iinc (v := 53) (lv' := [(3, .int 53), (2, .int 1), (0, .ref a0), (1, .int x0)]) hx hb dX10_sets_42 hl (k := 1) rfl (by decide +kernel) (by decide) rfl (fun ls hl => ?_)
  refine lv_goto (tgt := 19) hx hb dX10_sets_45 (by decide) ?_
  refine lv_iload_n hx hb dX10_sets_19 rfl (lv_at hl 0 rfl) ?_
  refine lv_bipush (v := 64) hx hb dX10_sets_20 (by decide) ?_
  refine lv_icmp_ge (tgt := 48) hx hb dX10_sets_22 (by decide) (fun c_ => absurd c_ (by decide +kernel)) (fun _ => ?_)
  refine lv_iload_n hx hb dX10_sets_25 rfl (lv_at hl 1 rfl) ?_
  refine lv_aload_n hx hb dX10_sets_26 rfl (lv_at hl 2 rfl) ?_
  refine k_get hC hK hP iX10 2 61 wf_X10_218 rfl (by decide) rfl rfl dX10_sets_27 ?_
  refine lv_iload_n hx hb dX10_sets_30 rfl (lv_at hl 0 rfl) ?_
  refine k_zald (v := 0) hC hK hP 3 53 rfl (by decide +kernel) (by decide) (by decide +kernel) dX10_sets_31 ?_
  refine lv_if_eq (tgt := 39) hx hb dX10_sets_32 (by decide) (fun _ => ?_) (fun c_ => absurd (by decide +kernel) c_)
  refine lv_iconst (v := 0) hx hb dX10_sets_39 (by decide) ?_
  refine lv_iadd hx hb dX10_sets_40 ?_
  refine k_i 1 (by decide +kernel) ?_
  refine lv_istore_n (lv' := [(2, .int 1), (3, .int 53), (0, .ref a0), (1, .int x0)]) hx hb dX10_sets_41 rfl hl (by decide) rfl (fun ls hl => ?_)
  refine lv_iinc (v := 54) (lv' := [(3, .int 54), (2, .int 1), (0, .ref a0), (1, .int x0)]) hx hb dX10_sets_42 hl (k := 1) rfl (by decide +kernel) (by decide) rfl (fun ls hl => ?_)
  refine lv_goto (tgt := 19) hx hb dX10_sets_45 (by decide) ?_
  refine lv_iload_n hx hb dX10_sets_19 rfl (lv_at hl 0 rfl) ?_
  refine lv_bipush (v := 64) hx hb dX10_sets_20 (by decide) ?_
  refine lv_icmp_ge (tgt := 48) hx hb dX10_sets_22 (by decide) (fun c_ => absurd c_ (by decide +kernel)) (fun _ => ?_)
  refine lv_iload_n hx hb dX10_sets_25 rfl (lv_at hl 1 rfl) ?_
  refine lv_aload_n hx hb dX10_sets_26 rfl (lv_at hl 2 rfl) ?_
  refine k_get hC hK hP iX10 2 61 wf_X10_218 rfl (by decide) rfl rfl dX10_sets_27 ?_
  refine lv_iload_n hx hb dX10_sets_30 rfl (lv_at hl 0 rfl) ?_
  refine k_zald (v := 0) hC hK hP 3 54 rfl (by decide +kernel) (by decide) (by decide +kernel) dX10_sets_31 ?_
  refine lv_if_eq (tgt := 39) hx hb dX10_sets_32 (by decide) (fun _ => ?_) (fun c_ => absurd (by decide +kernel) c_)
  refine lv_iconst (v := 0) hx hb dX10_sets_39 (by decide) ?_
  refine lv_iadd hx hb dX10_sets_40 ?_
  refine k_i 1 (by decide +kernel) ?_
  refine lv_istore_n (lv' := [(2, .int 1), (3, .int 54), (0, .ref a0), (1, .int x0)]) hx hb dX10_sets_41 rfl hl (by decide) rfl (fun ls hl => ?_)
  refine lv_iinc (v := 55) (lv' := [(3, .int 55), (2, .int 1), (0, .ref a0), (1, .int x0)]) hx hb dX10_sets_42 hl (k := 1) rfl (by decide +kernel) (by decide) rfl (fun ls hl => ?_)
  refine lv_goto (tgt := 19) hx hb dX10_sets_45 (by decide) ?_
  refine lv_iload_n hx hb dX10_sets_19 rfl (lv_at hl 0 rfl) ?_
  refine lv_bipush (v := 64) hx hb dX10_sets_20 (by decide) ?_
  refine lv_icmp_ge (tgt := 48) hx hb dX10_sets_22 (by decide) (fun c_ => absurd c_ (by decide +kernel)) (fun _ => ?_)
  refine lv_iload_n hx hb dX10_sets_25 rfl (lv_at hl 1 rfl) ?_
  refine lv_aload_n hx hb dX10_sets_26 rfl (lv_at hl 2 rfl) ?_
  refine k_get hC hK hP iX10 2 61 wf_X10_218 rfl (by decide) rfl rfl dX10_sets_27 ?_
  refine lv_iload_n hx hb dX10_sets_30 rfl (lv_at hl 0 rfl) ?_
  refine k_zald (v := 0) hC hK hP 3 55 rfl (by decide +kernel) (by decide) (by decide +kernel) dX10_sets_31 ?_
  refine lv_if_eq (tgt := 39) hx hb dX10_sets_32 (by decide) (fun _ => ?_) (fun c_ => absurd (by decide +kernel) c_)
  refine lv_iconst (v := 0) hx hb dX10_sets_39 (by decide) ?_
  refine lv_iadd hx hb dX10_sets_40 ?_
  refine k_i 1 (by decide +kernel) ?_
  refine lv_istore_n (lv' := [(2, .int 1), (3, .int 55), (0, .ref a0), (1, .int x0)]) hx hb dX10_sets_41 rfl hl (by decide) rfl (fun ls hl => ?_)
  refine lv_iinc (v := 56) (lv' := [(3, .int 56), (2, .int 1), (0, .ref a0), (1, .int x0)]) hx hb dX10_sets_42 hl (k := 1) rfl (by decide +kernel) (by decide) rfl (fun ls hl => ?_)
  refine lv_goto (tgt := 19) hx hb dX10_sets_45 (by decide) ?_
  refine lv_iload_n hx hb dX10_sets_19 rfl (lv_at hl 0 rfl) ?_
  refine lv_bipush (v := 64) hx hb dX10_sets_20 (by decide) ?_
  refine lv_icmp_ge (tgt := 48) hx hb dX10_sets_22 (by decide) (fun c_ => absurd c_ (by decide +kernel)) (fun _ => ?_)
  refine lv_iload_n hx hb dX10_sets_25 rfl (lv_at hl 1 rfl) ?_
  refine lv_aload_n hx hb dX10_sets_26 rfl (lv_at hl 2 rfl) ?_
  refine k_get hC hK hP iX10 2 61 wf_X10_218 rfl (by decide) rfl rfl dX10_sets_27 ?_
  refine lv_iload_n hx hb dX10_sets_30 rfl (lv_at hl 0 rfl) ?_
  refine k_zald (v := 0) hC hK hP 3 56 rfl (by decide +kernel) (by decide) (by decide +kernel) dX10_sets_31 ?_
  refine lv_if_eq (tgt := 39) hx hb dX10_sets_32 (by decide) (fun _ => ?_) (fun c_ => absurd (by decide +kernel) c_)
  refine lv_iconst (v := 0) hx hb dX10_sets_39 (by decide) ?_
  refine lv_iadd hx hb dX10_sets_40 ?_
  refine k_i 1 (by decide +kernel) ?_
  refine lv_istore_n (lv' := [(2, .int 1), (3, .int 56), (0, .ref a0), (1, .int x0)]) hx hb dX10_sets_41 rfl hl (by decide) rfl (fun ls hl => ?_)
  refine lv_iinc (v := 57) (lv' := [(3, .int 57), (2, .int 1), (0, .ref a0), (1, .int x0)]) hx hb dX10_sets_42 hl (k := 1) rfl (by decide +kernel) (by decide) rfl (fun ls hl => ?_)
  refine lv_goto (tgt := 19) hx hb dX10_sets_45 (by decide) ?_
  refine lv_iload_n hx hb dX10_sets_19 rfl (lv_at hl 0 rfl) ?_
  refine lv_bipush (v := 64) hx hb dX10_sets_20 (by decide) ?_
  refine lv_icmp_ge (tgt := 48) hx hb dX10_sets_22 (by decide) (fun c_ => absurd c_ (by decide +kernel)) (fun _ => ?_)
  refine lv_iload_n hx hb dX10_sets_25 rfl (lv_at hl 1 rfl) ?_
  refine lv_aload_n hx hb dX10_sets_26 rfl (lv_at hl 2 rfl) ?_
  refine k_get hC hK hP iX10 2 61 wf_X10_218 rfl (by decide) rfl rfl dX10_sets_27 ?_
  refine lv_iload_n hx hb dX10_sets_30 rfl (lv_at hl 0 rfl) ?_
  refine k_zald (v := 0) hC hK hP 3 57 rfl (by decide +kernel) (by decide) (by decide +kernel) dX10_sets_31 ?_
  refine lv_if_eq (tgt := 39) hx hb dX10_sets_32 (by decide) (fun _ => ?_) (fun c_ => absurd (by decide +kernel) c_)
  refine lv_iconst (v := 0) hx hb dX10_sets_39 (by decide) ?_
  refine lv_iadd hx hb dX10_sets_40 ?_
  refine k_i 1 (by decide +kernel) ?_
  refine lv_istore_n (lv' := [(2, .int 1), (3, .int 57), (0, .ref a0), (1, .int x0)]) hx hb dX10_sets_41 rfl hl (by decide) rfl (fun ls hl => ?_)
  refine lv_iinc (v := 58) (lv' := [(3, .int 58), (2, .int 1), (0, .ref a0), (1, .int x0)]) hx hb dX10_sets_42 hl (k := 1) rfl (by decide +kernel) (by decide) rfl (fun ls hl => ?_)
  refine lv_goto (tgt := 19) hx hb dX10_sets_45 (by decide) ?_
  refine lv_iload_n hx hb dX10_sets_19 rfl (lv_at hl 0 rfl) ?_
  refine lv_bipush (v := 64) hx hb dX10_sets_20 (by decide) ?_
  refine lv_icmp_ge (tgt := 48) hx hb dX10_sets_22 (by decide) (fun c_ => absurd c_ (by decide +kernel)) (fun _ => ?_)
  refine lv_iload_n hx hb dX10_sets_25 rfl (lv_at hl 1 rfl) ?_
  refine lv_aload_n hx hb dX10_sets_26 rfl (lv_at hl 2 rfl) ?_
  refine k_get hC hK hP iX10 2 61 wf_X10_218 rfl (by decide) rfl rfl dX10_sets_27 ?_
  refine lv_iload_n hx hb dX10_sets_30 rfl (lv_at hl 0 rfl) ?_
  refine k_zald (v := 0) hC hK hP 3 58 rfl (by decide +kernel) (by decide) (by decide +kernel) dX10_sets_31 ?_
  refine lv_if_eq (tgt := 39) hx hb dX10_sets_32 (by decide) (fun _ => ?_) (fun c_ => absurd (by decide +kernel) c_)
  refine lv_iconst (v := 0) hx hb dX10_sets_39 (by decide) ?_
  refine lv_iadd hx hb dX10_sets_40 ?_
  refine k_i 1 (by decide +kernel) ?_
  refine lv_istore_n (lv' := [(2, .int 1), (3, .int 58), (0, .ref a0), (1, .int x0)]) hx hb dX10_sets_41 rfl hl (by decide) rfl (fun ls hl => ?_)
  refine lv_iinc (v := 59) (lv' := [(3, .int 59), (2, .int 1), (0, .ref a0), (1, .int x0)]) hx hb dX10_sets_42 hl (k := 1) rfl (by decide +kernel) (by decide) rfl (fun ls hl => ?_)
  refine lv_goto (tgt := 19) hx hb dX10_sets_45 (by decide) ?_
  refine lv_iload_n hx hb dX10_sets_19 rfl (lv_at hl 0 rfl) ?_
  refine lv_bipush (v := 64) hx hb dX10_sets_20 (by decide) ?_
  refine lv_icmp_ge (tgt := 48) hx hb dX10_sets_22 (by decide) (fun c_ => absurd c_ (by decide +kernel)) (fun _ => ?_)
  refine lv_iload_n hx hb dX10_sets_25 rfl (lv_at hl 1 rfl) ?_
  refine lv_aload_n hx hb dX10_sets_26 rfl (lv_at hl 2 rfl) ?_
  refine k_get hC hK hP iX10 2 61 wf_X10_218 rfl (by decide) rfl rfl dX10_sets_27 ?_
  refine lv_iload_n hx hb dX10_sets_30 rfl (lv_at hl 0 rfl) ?_
  refine k_zald (v := 0) hC hK hP 3 59 rfl (by decide +kernel) (by decide) (by decide +kernel) dX10_sets_31 ?_
  refine lv_if_eq (tgt := 39) hx hb dX10_sets_32 (by decide) (fun _ => ?_) (fun c_ => absurd (by decide +kernel) c_)
  refine lv_iconst (v := 0) hx hb dX10_sets_39 (by decide) ?_
  refine lv_iadd hx hb dX10_sets_40 ?_
  refine k_i 1 (by decide +kernel) ?_
  refine lv_istore_n (lv' := [(2, .int 1), (3, .int 59), (0, .ref a0), (1, .int x0)]) hx hb dX10_sets_41 rfl hl (by decide) rfl (fun ls hl => ?_)
  refine lv_iinc (v := 60) (lv' := [(3, .int 60), (2, .int 1), (0, .ref a0), (1, .int x0)]) hx hb dX10_sets_42 hl (k := 1) rfl (by decide +kernel) (by decide) rfl (fun ls hl => ?_)
  refine lv_goto (tgt := 19) hx hb dX10_sets_45 (by decide) ?_
  refine lv_iload_n hx hb dX10_sets_19 rfl (lv_at hl 0 rfl) ?_
  refine lv_bipush (v := 64) hx hb dX10_sets_20 (by decide) ?_
  refine lv_icmp_ge (tgt := 48) hx hb dX10_sets_22 (by decide) (fun c_ => absurd c_ (by decide +kernel)) (fun _ => ?_)
  refine lv_iload_n hx hb dX10_sets_25 rfl (lv_at hl 1 rfl) ?_
  refine lv_aload_n hx hb dX10_sets_26 rfl (lv_at hl 2 rfl) ?_
  refine k_get hC hK hP iX10 2 61 wf_X10_218 rfl (by decide) rfl rfl dX10_sets_27 ?_
  refine lv_iload_n hx hb dX10_sets_30 rfl (lv_at hl 0 rfl) ?_
  refine k_zald (v := 0) hC hK hP 3 60 rfl (by decide +kernel) (by decide) (by decide +kernel) dX10_sets_31 ?_
  refine lv_if_eq (tgt := 39) hx hb dX10_sets_32 (by decide) (fun _ => ?_) (fun c_ => absurd (by decide +kernel) c_)
  refine lv_iconst (v := 0) hx hb dX10_sets_39 (by decide) ?_
  refine lv_iadd hx hb dX10_sets_40 ?_
  refine k_i 1 (by decide +kernel) ?_
  refine lv_istore_n (lv' := [(2, .int 1), (3, .int 60), (0, .ref a0), (1, .int x0)]) hx hb dX10_sets_41 rfl hl (by decide) rfl (fun ls hl => ?_)
  refine lv_iinc (v := 61) (lv' := [(3, .int 61), (2, .int 1), (0, .ref a0), (1, .int x0)]) hx hb dX10_sets_42 hl (k := 1) rfl (by decide +kernel) (by decide) rfl (fun ls hl => ?_)
  refine lv_goto (tgt := 19) hx hb dX10_sets_45 (by decide) ?_
  refine lv_iload_n hx hb dX10_sets_19 rfl (lv_at hl 0 rfl) ?_
  refine lv_bipush (v := 64) hx hb dX10_sets_20 (by decide) ?_
  refine lv_icmp_ge (tgt := 48) hx hb dX10_sets_22 (by decide) (fun c_ => absurd c_ (by decide +kernel)) (fun _ => ?_)
  refine lv_iload_n hx hb dX10_sets_25 rfl (lv_at hl 1 rfl) ?_
  refine lv_aload_n hx hb dX10_sets_26 rfl (lv_at hl 2 rfl) ?_
  refine k_get hC hK hP iX10 2 61 wf_X10_218 rfl (by decide) rfl rfl dX10_sets_27 ?_
  refine lv_iload_n hx hb dX10_sets_30 rfl (lv_at hl 0 rfl) ?_
  refine k_zald (v := 0) hC hK hP 3 61 rfl (by decide +kernel) (by decide) (by decide +kernel) dX10_sets_31 ?_
  refine lv_if_eq (tgt := 39) hx hb dX10_sets_32 (by decide) (fun _ => ?_) (fun c_ => absurd (by decide +kernel) c_)
  refine lv_iconst (v := 0) hx hb dX10_sets_39 (by decide) ?_
  refine lv_iadd hx hb dX10_sets_40 ?_
  refine k_i 1 (by decide +kernel) ?_
  refine lv_istore_n (lv' := [(2, .int 1), (3, .int 61), (0, .ref a0), (1, .int x0)]) hx hb dX10_sets_41 rfl hl (by decide) rfl (fun ls hl => ?_)
  refine lv_iinc (v := 62) (lv' := [(3, .int 62), (2, .int 1), (0, .ref a0), (1, .int x0)]) hx hb dX10_sets_42 hl (k := 1) rfl (by decide +kernel) (by decide) rfl (fun ls hl => ?_)
  refine lv_goto (tgt := 19) hx hb dX10_sets_45 (by decide) ?_
  refine lv_iload_n hx hb dX10_sets_19 rfl (lv_at hl 0 rfl) ?_
  refine lv_bipush (v := 64) hx hb dX10_sets_20 (by decide) ?_
  refine lv_icmp_ge (tgt := 48) hx hb dX10_sets_22 (by decide) (fun c_ => absurd c_ (by decide +kernel)) (fun _ => ?_)
  refine lv_iload_n hx hb dX10_sets_25 rfl (lv_at hl 1 rfl) ?_
  refine lv_aload_n hx hb dX10_sets_26 rfl (lv_at hl 2 rfl) ?_
  refine k_get hC hK hP iX10 2 61 wf_X10_218 rfl (by decide) rfl rfl dX10_sets_27 ?_
  refine lv_iload_n hx hb dX10_sets_30 rfl (lv_at hl 0 rfl) ?_
  refine k_zald (v := 0) hC hK hP 3 62 rfl (by decide +kernel) (by decide) (by decide +kernel) dX10_sets_31 ?_
  refine lv_if_eq (tgt := 39) hx hb dX10_sets_32 (by decide) (fun _ => ?_) (fun c_ => absurd (by decide +kernel) c_)
  refine lv_iconst (v := 0) hx hb dX10_sets_39 (by decide) ?_
  refine lv_iadd hx hb dX10_sets_40 ?_
  refine k_i 1 (by decide +kernel) ?_
  refine lv_istore_n (lv' := [(2, .int 1), (3, .int 62), (0, .ref a0), (1, .int x0)]) hx hb dX10_sets_41 rfl hl (by decide) rfl (fun ls hl => ?_)
  refine lv_iinc (v := 63) (lv' := [(3, .int 63), (2, .int 1), (0, .ref a0), (1, .int x0)]) hx hb dX10_sets_42 hl (k := 1) rfl (by decide +kernel) (by decide) rfl (fun ls hl => ?_)
  refine lv_goto (tgt := 19) hx hb dX10_sets_45 (by decide) ?_
  refine lv_iload_n hx hb dX10_sets_19 rfl (lv_at hl 0 rfl) ?_
  refine lv_bipush (v := 64) hx hb dX10_sets_20 (by decide) ?_
  refine lv_icmp_ge (tgt := 48) hx hb dX10_sets_22 (by decide) (fun c_ => absurd c_ (by decide +kernel)) (fun _ => ?_)
  refine lv_iload_n hx hb dX10_sets_25 rfl (lv_at hl 1 rfl) ?_
  refine lv_aload_n hx hb dX10_sets_26 rfl (lv_at hl 2 rfl) ?_
  refine k_get hC hK hP iX10 2 61 wf_X10_218 rfl (by decide) rfl rfl dX10_sets_27 ?_
  refine lv_iload_n hx hb dX10_sets_30 rfl (lv_at hl 0 rfl) ?_
  refine k_zald (v := 0) hC hK hP 3 63 rfl (by decide +kernel) (by decide) (by decide +kernel) dX10_sets_31 ?_
  refine lv_if_eq (tgt := 39) hx hb dX10_sets_32 (by decide) (fun _ => ?_) (fun c_ => absurd (by decide +kernel) c_)
  refine lv_iconst (v := 0) hx hb dX10_sets_39 (by decide) ?_
  refine lv_iadd hx hb dX10_sets_40 ?_
  refine k_i 1 (by decide +kernel) ?_
  refine lv_istore_n (lv' := [(2, .int 1), (3, .int 63), (0, .ref a0), (1, .int x0)]) hx hb dX10_sets_41 rfl hl (by decide) rfl (fun ls hl => ?_)
  refine lv_iinc (v := 64) (lv' := [(3, .int 64), (2, .int 1), (0, .ref a0), (1, .int x0)]) hx hb dX10_sets_42 hl (k := 1) rfl (by decide +kernel) (by decide) rfl (fun ls hl => ?_)
  refine lv_goto (tgt := 19) hx hb dX10_sets_45 (by decide) ?_
  refine lv_iload_n hx hb dX10_sets_19 rfl (lv_at hl 0 rfl) ?_
  refine lv_bipush (v := 64) hx hb dX10_sets_20 (by decide) ?_
  refine lv_icmp_ge (tgt := 48) hx hb dX10_sets_22 (by decide) (fun _ => ?_) (fun c_ => absurd (by decide +kernel) c_)
  refine lv_iload_n hx hb dX10_sets_48 rfl (lv_at hl 1 rfl) ?_
  exact k_iret hC hr hlk hK hP hD hS () [] rfl (by decide) rfl (Nat.le_of_ble_eq_true rfl) (Nat.le_of_ble_eq_true rfl) dX10_sets_49
theorem dX10_set_0 : decode cX10_set 0 = .ok (.aload_n 0, 1) := by decide +kernel
theorem dX10_set_1 : decode cX10_set 1 = .ok (.iload_n 2, 1) := by decide +kernel
theorem dX10_set_2 : decode cX10_set 2 = .ok (.invokevirtual 384, 3) := by decide +kernel
theorem dX10_set_5 : decode cX10_set 5 = .ok (.ifCond .ne 5, 3) := by decide +kernel
theorem dX10_set_10 : decode cX10_set 10 = .ok (.aload_n 0, 1) := by decide +kernel
theorem dX10_set_11 : decode cX10_set 11 = .ok (.invokevirtual 427, 3) := by decide +kernel
theorem dX10_set_14 : decode cX10_set 14 = .ok (.iload_n 1, 1) := by decide +kernel
theorem dX10_set_15 : decode cX10_set 15 = .ok (.istore_n 3, 1) := by decide +kernel
theorem dX10_set_16 : decode cX10_set 16 = .ok (.iconst 0, 1) := by decide +kernel
theorem dX10_set_17 : decode cX10_set 17 = .ok (.istore 4, 2) := by decide +kernel
theorem dX10_set_19 : decode cX10_set 19 = .ok (.iload 4, 2) := by decide +kernel
theorem dX10_set_21 : decode cX10_set 21 = .ok (.bipush 64, 2) := by decide +kernel
theorem dX10_set_23 : decode cX10_set 23 = .ok (.if_icmp .ge 32, 3) := by decide +kernel
theorem dX10_set_26 : decode cX10_set 26 = .ok (.aload_n 0, 1) := by decide +kernel
theorem dX10_set_27 : decode cX10_set 27 = .ok (.getfield 218, 3) := by decide +kernel
theorem dX10_set_30 : decode cX10_set 30 = .ok (.iload 4, 2) := by decide +kernel
theorem dX10_set_32 : decode cX10_set 32 = .ok (.baload, 1) := by decide +kernel
theorem dX10_set_33 : decode cX10_set 33 = .ok (.ifCond .ne 6, 3) := by decide +kernel
theorem dX10_set_39 : decode cX10_set 39 = .ok (.iload_n 3, 1) := by decide +kernel
theorem dX10_set_40 : decode cX10_set 40 = .ok (.ifCond .ne 6, 3) := by decide +kernel
theorem dX10_set_46 : decode cX10_set 46 = .ok (.iinc 3 (-1), 3) := by decide +kernel
theorem dX10_set_49 : decode cX10_set 49 = .ok (.iinc 4 1, 3) := by decide +kernel
theorem dX10_set_52 : decode cX10_set 52 = .ok (.goto (-33), 3) := by decide +kernel
theorem dX10_set_36 : decode cX10_set 36 = .ok (.goto 13, 3) := by decide +kernel
theorem dX10_set_55 : decode cX10_set 55 = .ok (.iconst (-1), 1) := by decide +kernel
theorem dX10_set_56 : decode cX10_set 56 = .ok (.ireturn, 1) := by decide +kernel
theorem dX10_set_43 : decode cX10_set 43 = .ok (.iload 4, 2) := by decide +kernel
theorem dX10_set_45 : decode cX10_set 45 = .ok (.ireturn, 1) := by decide +kernel
set_option maxHeartbeats 4000000 in
set_option maxRecDepth 100000 in
theorem c190_X10_set (l : Launch) (G : va_G) (cI cJ cB cZ : ClassId) (a0 a1 a2 a3 a4 a5 a6 a7 a8 a9 a10 a11 a12 a13 a14 a15 a16 a17 a18 a19 a20 a21 a22 a23 a24 a25 a26 a27 a28 a29 a30 a31 a32 a33 a34 a35 a36 a37 a38 a39 a40 a41 a42 : Nat) (x0 : Int32) (x1 : Int32) : Con l G (TY cI cJ cB cZ) yX10_set cX10_set 5 (some .int) ({ frames := 4, cells := 0, slots := 0, locals := 89 } : Room) [.ref a0, .int x0, .int x1] [(a0, .inr (10, [.ref a1, .ref a2, .int 0, .int 0, .int 0, .int (-1), .int 0, .int 0, .int 0, .int 0, .long 0, .ref a3, .ref a4, .ref a5, .ref a6, .ref a7, .ref a8, .ref a9, .ref a10, .ref a11, .ref a12, .ref a13, .ref a14, .ref a15, .ref a16, .ref a17, .ref a18, .ref a19, .ref a20, .ref a21, .ref a22, .ref a23, .ref a24, .ref a25, .ref a26, .ref a27, .ref a28, .ref a29, .ref a30, .ref a31, .int 0, .int 0, .ref a32, .ref a33, .int 0, .int 0, .int 0, .int 0, .ref a34, .int 0, .ref a35, .ref a36, .ref a37, .int 0, .int 0, .int 0, .int 0, .int 0, .int 0, .int 0, .int 0, .ref a38, .int 0, .ref a39, .ref a40, .ref a41, .ref a42, .int 0, .int 0])), (a8, .inl (cI, 2, .inl (upd (fun _ => 0) 0 100))), (a7, .inl (cI, 2, .inl (upd (fun _ => 0) 0 100))), (a11, .inl (cI, 4, .inl (upd (upd (fun _ => 0) 0 16) 1 16))), (a10, .inl (cI, 4, .inl (upd (upd (fun _ => 0) 0 16) 1 16))), (a12, .inl (cI, 2, .inl (fun _ => 0))), (a19, .inl (cI, 2, .inl (fun _ => 0))), (a37, .inl (cI, 2, .inl (fun _ => 0))), (a35, .inl (cI, 300000, .inl (fun _ => 0))), (a38, .inl (cZ, 64, .inl (fun _ => 0)))] (QI G (TY cI cJ cB cZ) (fun (r : Int32) (u : Unit) => r = sp_end x0) (fun u : Unit => [])) := by
  refine k_met (by decide) (Nat.le_of_ble_eq_true rfl) ?_
  intro p e s m below meth c A ls hC hr hlk hnm hN hK hA hP hD hS hl
  have hl : lv_has ls 5 [(0, .ref a0), (1, .int x0), (2, .int x1)] := hl
  obtain ⟨hx, hb, hml, hown, hts⟩ := id hC
  refine lv_aload_n hx hb dX10_set_0 rfl (lv_at hl 0 rfl) ?_
  refine lv_iload_n hx hb dX10_set_1 rfl (lv_at hl 2 rfl) ?_
  refine k_ci (wr := [(a38, .inl (cZ, 64, .inl (fun _ => 0)))]) (k_rV hC hN hK hP hD (c158_X10_find l G cI cJ cB cZ a0 a1 a2 a3 a4 a5 a6 a7 a8 a9 a10 a11 a12 a13 a14 a15 a16 a17 a18 a19 a20 a21 a22 a23 a24 a25 a26 a27 a28 a29 a30 a31 a32 a33 a34 a35 a36 a37 a38 a39 a40 a41 a42 x1) [0, 1, 2, 3, 4, 5, 6, 7, 8] rfl (by decide) mi_X10_find in_X10_find se_X10_find wm_X10_384 10 0 rfl rfl rfl hl.1 rfl rfl (Nat.le_of_ble_eq_true rfl) ⟨(Nat.le_of_ble_eq_true rfl), (Nat.le_of_ble_eq_true rfl)⟩ dX10_set_2 ⟨(Nat.le_of_ble_eq_true rfl), (Nat.le_of_ble_eq_true rfl)⟩) hP hD hS hA [0, 1, 2, 3, 4, 5, 6, 7, 8] [9] rfl rfl (by decide) (by decide) (fun r1 u1 H locs hp hP hD hS => ?_)
  have hP : va_P G cl [(a38, .inl (cZ, 64, .inl (fun _ => 0))), (a0, .inr (10, [.ref a1, .ref a2, .int 0, .int 0, .int 0, .int (-1), .int 0, .int 0, .int 0, .int 0, .long 0, .ref a3, .ref a4, .ref a5, .ref a6, .ref a7, .ref a8, .ref a9, .ref a10, .ref a11, .ref a12, .ref a13, .ref a14, .ref a15, .ref a16, .ref a17, .ref a18, .ref a19, .ref a20, .ref a21, .ref a22, .ref a23, .ref a24, .ref a25, .ref a26, .ref a27, .ref a28, .ref a29, .ref a30, .ref a31, .int 0, .int 0, .ref a32, .ref a33, .int 0, .int 0, .int 0, .int 1, .ref a34, .int 0, .ref a35, .ref a36, .ref a37, .int 1, .int x1, .int 100, .int 1, .int 0, .int 0, .int 0, .int 0, .ref a38, .int 0, .ref a39, .ref a40, .ref a41, .ref a42, .int 0, .int 0])), (a8, .inl (cI, 2, .inl (upd (fun _ => 0) 0 100))), (a7, .inl (cI, 2, .inl (upd (fun _ => 0) 0 100))), (a11, .inl (cI, 4, .inl (upd (upd (fun _ => 0) 0 16) 1 16))), (a10, .inl (cI, 4, .inl (upd (upd (fun _ => 0) 0 16) 1 16))), (a12, .inl (cI, 2, .inl (fun _ => 0))), (a19, .inl (cI, 2, .inl (fun _ => 0))), (a37, .inl (cI, 2, .inl (upd (upd (fun _ => 0) 1 16) 0 16))), (a35, .inl (cI, 300000, .inl (fun _ => 0)))] H := hP
  have hD : va_D A [(a38, .inl (cZ, 64, .inl (fun _ => 0))), (a0, .inr (10, [.ref a1, .ref a2, .int 0, .int 0, .int 0, .int (-1), .int 0, .int 0, .int 0, .int 0, .long 0, .ref a3, .ref a4, .ref a5, .ref a6, .ref a7, .ref a8, .ref a9, .ref a10, .ref a11, .ref a12, .ref a13, .ref a14, .ref a15, .ref a16, .ref a17, .ref a18, .ref a19, .ref a20, .ref a21, .ref a22, .ref a23, .ref a24, .ref a25, .ref a26, .ref a27, .ref a28, .ref a29, .ref a30, .ref a31, .int 0, .int 0, .ref a32, .ref a33, .int 0, .int 0, .int 0, .int 1, .ref a34, .int 0, .ref a35, .ref a36, .ref a37, .int 1, .int x1, .int 100, .int 1, .int 0, .int 0, .int 0, .int 0, .ref a38, .int 0, .ref a39, .ref a40, .ref a41, .ref a42, .int 0, .int 0])), (a8, .inl (cI, 2, .inl (upd (fun _ => 0) 0 100))), (a7, .inl (cI, 2, .inl (upd (fun _ => 0) 0 100))), (a11, .inl (cI, 4, .inl (upd (upd (fun _ => 0) 0 16) 1 16))), (a10, .inl (cI, 4, .inl (upd (upd (fun _ => 0) 0 16) 1 16))), (a12, .inl (cI, 2, .inl (fun _ => 0))), (a19, .inl (cI, 2, .inl (fun _ => 0))), (a37, .inl (cI, 2, .inl (upd (upd (fun _ => 0) 1 16) 0 16))), (a35, .inl (cI, 300000, .inl (fun _ => 0)))] := hD
  subst hp
  refine lv_if_ne (tgt := 10) hx hb dX10_set_5 (by decide) (fun _ => ?_) (fun c_ => absurd c_ (by decide +kernel))
  refine lv_aload_n hx hb dX10_set_10 rfl (lv_at hl 0 rfl) ?_
  refine k_cv (wr := [(a8, .inl (cI, 2, .inl (upd (fun _ => 0) 0 100))), (a19, .inl (cI, 2, .inl (fun _ => 0)))]) (k_rV hC hN hK hP hD (c187_X10_layLiars l G cI cJ cB cZ a0 a1 a2 a3 a4 a5 a6 a7 a8 a9 a10 a11 a12 a13 a14 a15 a16 a17 a18 a19 a20 a21 a22 a23 a24 a25 a26 a27 a28 a29 a30 a31 a32 a33 a34 a35 a36 a37 a38 a39 a40 a41 a42 x1) [1, 0, 9, 6, 5, 4, 8, 3] rfl (by decide) mi_X10_layLiars in_X10_layLiars se_X10_layLiars wm_X10_427 10 1 rfl rfl rfl hl.1 rfl rfl (Nat.le_of_ble_eq_true rfl) ⟨(Nat.le_of_ble_eq_true rfl), (Nat.le_of_ble_eq_true rfl)⟩ dX10_set_11 ⟨(Nat.le_of_ble_eq_true rfl), (Nat.le_of_ble_eq_true rfl)⟩) hP hD hS hA [1, 0, 9, 6, 5, 4, 8, 3] [2, 7] rfl rfl (by decide) (by decide) (fun u2 H locs hp hP hD hS => ?_)
  have hP : va_P G cl [(a8, .inl (cI, 2, .inl (upd (fun _ => 0) 0 100))), (a19, .inl (cI, 2, .inl (fun _ => 0))), (a0, .inr (10, [.ref a1, .ref a2, .int 0, .int 0, .int 0, .int (-1), .int 0, .int 0, .int 0, .int 0, .long 0, .ref a3, .ref a4, .ref a5, .ref a6, .ref a7, .ref a8, .ref a9, .ref a10, .ref a11, .ref a12, .ref a13, .ref a14, .ref a15, .ref a16, .ref a17, .ref a18, .ref a19, .ref a20, .ref a21, .ref a22, .ref a23, .ref a24, .ref a25, .ref a26, .ref a27, .ref a28, .ref a29, .ref a30, .ref a31, .int 0, .int 0, .ref a32, .ref a33, .int 0, .int 0, .int 0, .int 1, .ref a34, .int 0, .ref a35, .ref a36, .ref a37, .int 1, .int x1, .int 100, .int 1, .int 0, .int 0, .int 0, .int 0, .ref a38, .int 0, .ref a39, .ref a40, .ref a41, .ref a42, .int 0, .int 0])), (a38, .inl (cZ, 64, .inl (upd (fun _ => 0) 0 1))), (a35, .inl (cI, 300000, .inl (fun _ => 0))), (a12, .inl (cI, 2, .inl (fun _ => 0))), (a10, .inl (cI, 4, .inl (upd (upd (fun _ => 0) 0 16) 1 16))), (a11, .inl (cI, 4, .inl (upd (upd (fun _ => 0) 0 16) 1 16))), (a37, .inl (cI, 2, .inl (upd (upd (fun _ => 0) 1 16) 0 16))), (a7, .inl (cI, 2, .inl (upd (fun _ => 0) 0 100)))] H := hP
  have hD : va_D A [(a8, .inl (cI, 2, .inl (upd (fun _ => 0) 0 100))), (a19, .inl (cI, 2, .inl (fun _ => 0))), (a0, .inr (10, [.ref a1, .ref a2, .int 0, .int 0, .int 0, .int (-1), .int 0, .int 0, .int 0, .int 0, .long 0, .ref a3, .ref a4, .ref a5, .ref a6, .ref a7, .ref a8, .ref a9, .ref a10, .ref a11, .ref a12, .ref a13, .ref a14, .ref a15, .ref a16, .ref a17, .ref a18, .ref a19, .ref a20, .ref a21, .ref a22, .ref a23, .ref a24, .ref a25, .ref a26, .ref a27, .ref a28, .ref a29, .ref a30, .ref a31, .int 0, .int 0, .ref a32, .ref a33, .int 0, .int 0, .int 0, .int 1, .ref a34, .int 0, .ref a35, .ref a36, .ref a37, .int 1, .int x1, .int 100, .int 1, .int 0, .int 0, .int 0, .int 0, .ref a38, .int 0, .ref a39, .ref a40, .ref a41, .ref a42, .int 0, .int 0])), (a38, .inl (cZ, 64, .inl (upd (fun _ => 0) 0 1))), (a35, .inl (cI, 300000, .inl (fun _ => 0))), (a12, .inl (cI, 2, .inl (fun _ => 0))), (a10, .inl (cI, 4, .inl (upd (upd (fun _ => 0) 0 16) 1 16))), (a11, .inl (cI, 4, .inl (upd (upd (fun _ => 0) 0 16) 1 16))), (a37, .inl (cI, 2, .inl (upd (upd (fun _ => 0) 1 16) 0 16))), (a7, .inl (cI, 2, .inl (upd (fun _ => 0) 0 100)))] := hD
  refine lv_iload_n hx hb dX10_set_14 rfl (lv_at hl 1 rfl) ?_
  refine lv_istore_n (lv' := [(3, .int x0), (0, .ref a0), (1, .int x0), (2, .int x1)]) hx hb dX10_set_15 rfl hl (by decide) rfl (fun ls hl => ?_)
  refine lv_iconst (v := 0) hx hb dX10_set_16 (by decide) ?_
  refine lv_istore (lv' := [(4, .int 0), (3, .int x0), (0, .ref a0), (1, .int x0), (2, .int x1)]) hx hb dX10_set_17 hl (by decide) rfl (fun ls hl => ?_)
  refine lv_iload hx hb dX10_set_19 (lv_at hl 0 rfl) ?_
  refine lv_bipush (v := 64) hx hb dX10_set_21 (by decide) ?_
  refine lv_icmp_ge (tgt := 55) hx hb dX10_set_23 (by decide) (fun c_ => absurd c_ (by decide +kernel)) (fun _ => ?_)
  refine lv_aload_n hx hb dX10_set_26 rfl (lv_at hl 2 rfl) ?_
  refine k_get hC hK hP iX10 2 61 wf_X10_218 rfl (by decide) rfl rfl dX10_set_27 ?_
  refine lv_iload hx hb dX10_set_30 (lv_at hl 0 rfl) ?_
  refine k_zald (v := 1) hC hK hP 3 0 rfl (by decide +kernel) (by decide) (by decide +kernel) dX10_set_32 ?_
  refine lv_if_ne (tgt := 39) hx hb dX10_set_33 (by decide) (fun _ => ?_) (fun c_ => absurd c_ (by decide +kernel))
  refine lv_iload_n hx hb dX10_set_39 rfl (lv_at hl 1 rfl) ?_
  refine lv_if_ne (tgt := 46) hx hb dX10_set_40 (by decide) (fun c_3 => ?_) (fun c_3 => ?_)
  · have d_3 : x0.toInt ≠ 0 := fa_ne c_3
    refine lv_iinc (v := (x0 + Int32.ofInt (-1))) (lv' := [(3, .int (x0 + Int32.ofInt (-1))), (4, .int 0), (0, .ref a0), (1, .int x0), (2, .int x1)]) hx hb dX10_set_46 hl (k := 1) rfl rfl (by decide) rfl (fun ls hl => ?_)
    refine lv_iinc (v := 1) (lv' := [(4, .int 1), (3, .int (x0 + Int32.ofInt (-1))), (0, .ref a0), (1, .int x0), (2, .int x1)]) hx hb dX10_set_49 hl (k := 1) rfl (by decide +kernel) (by decide) rfl (fun ls hl => ?_)
    refine lv_goto (tgt := 19) hx hb dX10_set_52 (by decide) ?_
    refine lv_iload hx hb dX10_set_19 (lv_at hl 0 rfl) ?_
    refine lv_bipush (v := 64) hx hb dX10_set_21 (by decide) ?_
    refine lv_icmp_ge (tgt := 55) hx hb dX10_set_23 (by decide) (fun c_ => absurd c_ (by decide +kernel)) (fun _ => ?_)
    refine lv_aload_n hx hb dX10_set_26 rfl (lv_at hl 2 rfl) ?_
    refine k_get hC hK hP iX10 2 61 wf_X10_218 rfl (by decide) rfl rfl dX10_set_27 ?_
    refine lv_iload hx hb dX10_set_30 (lv_at hl 0 rfl) ?_
    refine k_zald (v := 0) hC hK hP 3 1 rfl (by decide +kernel) (by decide) (by decide +kernel) dX10_set_32 ?_
    refine lv_if_ne (tgt := 39) hx hb dX10_set_33 (by decide) (fun c_ => absurd (by decide +kernel) c_) (fun _ => ?_)
    refine lv_goto (tgt := 49) hx hb dX10_set_36 (by decide) ?_
    refine lv_iinc (v := 2) (lv' := [(4, .int 2), (3, .int (x0 + Int32.ofInt (-1))), (0, .ref a0), (1, .int x0), (2, .int x1)]) hx hb dX10_set_49 hl (k := 0) rfl (by decide +kernel) (by decide) rfl (fun ls hl => ?_)
    refine lv_goto (tgt := 19) hx hb dX10_set_52 (by decide) ?_
    refine lv_iload hx hb dX10_set_19 (lv_at hl 0 rfl) ?_
    refine lv_bipush (v := 64) hx hb dX10_set_21 (by decide) ?_
    refine lv_icmp_ge (tgt := 55) hx hb dX10_set_23 (by decide) (fun c_ => absurd c_ (by decide +kernel)) (fun _ => ?_)
    refine lv_aload_n hx hb dX10_set_26 rfl (lv_at hl 2 rfl) ?_
    refine k_get hC hK hP iX10 2 61 wf_X10_218 rfl (by decide) rfl rfl dX10_set_27 ?_
    refine lv_iload hx hb dX10_set_30 (lv_at hl 0 rfl) ?_
    refine k_zald (v := 0) hC hK hP 3 2 rfl (by decide +kernel) (by decide) (by decide +kernel) dX10_set_32 ?_
    refine lv_if_ne (tgt := 39) hx hb dX10_set_33 (by decide) (fun c_ => absurd (by decide +kernel) c_) (fun _ => ?_)
    refine lv_goto (tgt := 49) hx hb dX10_set_36 (by decide) ?_
    refine lv_iinc (v := 3) (lv' := [(4, .int 3), (3, .int (x0 + Int32.ofInt (-1))), (0, .ref a0), (1, .int x0), (2, .int x1)]) hx hb dX10_set_49 hl (k := 0) rfl (by decide +kernel) (by decide) rfl (fun ls hl => ?_)
    refine lv_goto (tgt := 19) hx hb dX10_set_52 (by decide) ?_
    refine lv_iload hx hb dX10_set_19 (lv_at hl 0 rfl) ?_
    refine lv_bipush (v := 64) hx hb dX10_set_21 (by decide) ?_
    refine lv_icmp_ge (tgt := 55) hx hb dX10_set_23 (by decide) (fun c_ => absurd c_ (by decide +kernel)) (fun _ => ?_)
    refine lv_aload_n hx hb dX10_set_26 rfl (lv_at hl 2 rfl) ?_
    refine k_get hC hK hP iX10 2 61 wf_X10_218 rfl (by decide) rfl rfl dX10_set_27 ?_
    refine lv_iload hx hb dX10_set_30 (lv_at hl 0 rfl) ?_
    refine k_zald (v := 0) hC hK hP 3 3 rfl (by decide +kernel) (by decide) (by decide +kernel) dX10_set_32 ?_
    refine lv_if_ne (tgt := 39) hx hb dX10_set_33 (by decide) (fun c_ => absurd (by decide +kernel) c_) (fun _ => ?_)
    refine lv_goto (tgt := 49) hx hb dX10_set_36 (by decide) ?_
    refine lv_iinc (v := 4) (lv' := [(4, .int 4), (3, .int (x0 + Int32.ofInt (-1))), (0, .ref a0), (1, .int x0), (2, .int x1)]) hx hb dX10_set_49 hl (k := 0) rfl (by decide +kernel) (by decide) rfl (fun ls hl => ?_)
    refine lv_goto (tgt := 19) hx hb dX10_set_52 (by decide) ?_
    refine lv_iload hx hb dX10_set_19 (lv_at hl 0 rfl) ?_
    refine lv_bipush (v := 64) hx hb dX10_set_21 (by decide) ?_
    refine lv_icmp_ge (tgt := 55) hx hb dX10_set_23 (by decide) (fun c_ => absurd c_ (by decide +kernel)) (fun _ => ?_)
    refine lv_aload_n hx hb dX10_set_26 rfl (lv_at hl 2 rfl) ?_
    refine k_get hC hK hP iX10 2 61 wf_X10_218 rfl (by decide) rfl rfl dX10_set_27 ?_
    refine lv_iload hx hb dX10_set_30 (lv_at hl 0 rfl) ?_
    refine k_zald (v := 0) hC hK hP 3 4 rfl (by decide +kernel) (by decide) (by decide +kernel) dX10_set_32 ?_
    refine lv_if_ne (tgt := 39) hx hb dX10_set_33 (by decide) (fun c_ => absurd (by decide +kernel) c_) (fun _ => ?_)
    refine lv_goto (tgt := 49) hx hb dX10_set_36 (by decide) ?_
    refine lv_iinc (v := 5) (lv' := [(4, .int 5), (3, .int (x0 + Int32.ofInt (-1))), (0, .ref a0), (1, .int x0), (2, .int x1)]) hx hb dX10_set_49 hl (k := 0) rfl (by decide +kernel) (by decide) rfl (fun ls hl => ?_)
    refine lv_goto (tgt := 19) hx hb dX10_set_52 (by decide) ?_
    refine lv_iload hx hb dX10_set_19 (lv_at hl 0 rfl) ?_
    refine lv_bipush (v := 64) hx hb dX10_set_21 (by decide) ?_
    refine lv_icmp_ge (tgt := 55) hx hb dX10_set_23 (by decide) (fun c_ => absurd c_ (by decide +kernel)) (fun _ => ?_)
    refine lv_aload_n hx hb dX10_set_26 rfl (lv_at hl 2 rfl) ?_
    refine k_get hC hK hP iX10 2 61 wf_X10_218 rfl (by decide) rfl rfl dX10_set_27 ?_
    refine lv_iload hx hb dX10_set_30 (lv_at hl 0 rfl) ?_
    refine k_zald (v := 0) hC hK hP 3 5 rfl (by decide +kernel) (by decide) (by decide +kernel) dX10_set_32 ?_
    refine lv_if_ne (tgt := 39) hx hb dX10_set_33 (by decide) (fun c_ => absurd (by decide +kernel) c_) (fun _ => ?_)
    refine lv_goto (tgt := 49) hx hb dX10_set_36 (by decide) ?_
    refine lv_iinc (v := 6) (lv' := [(4, .int 6), (3, .int (x0 + Int32.ofInt (-1))), (0, .ref a0), (1, .int x0), (2, .int x1)]) hx hb dX10_set_49 hl (k := 0) rfl (by decide +kernel) (by decide) rfl (fun ls hl => ?_)
    refine lv_goto (tgt := 19) hx hb dX10_set_52 (by decide) ?_
    refine lv_iload hx hb dX10_set_19 (lv_at hl 0 rfl) ?_
    refine lv_bipush (v := 64) hx hb dX10_set_21 (by decide) ?_
    refine lv_icmp_ge (tgt := 55) hx hb dX10_set_23 (by decide) (fun c_ => absurd c_ (by decide +kernel)) (fun _ => ?_)
    refine lv_aload_n hx hb dX10_set_26 rfl (lv_at hl 2 rfl) ?_
    refine k_get hC hK hP iX10 2 61 wf_X10_218 rfl (by decide) rfl rfl dX10_set_27 ?_
    refine lv_iload hx hb dX10_set_30 (lv_at hl 0 rfl) ?_
    refine k_zald (v := 0) hC hK hP 3 6 rfl (by decide +kernel) (by decide) (by decide +kernel) dX10_set_32 ?_
    refine lv_if_ne (tgt := 39) hx hb dX10_set_33 (by decide) (fun c_ => absurd (by decide +kernel) c_) (fun _ => ?_)
    refine lv_goto (tgt := 49) hx hb dX10_set_36 (by decide) ?_
    refine lv_iinc (v := 7) (lv' := [(4, .int 7), (3, .int (x0 + Int32.ofInt (-1))), (0, .ref a0), (1, .int x0), (2, .int x1)]) hx hb dX10_set_49 hl (k := 0) rfl (by decide +kernel) (by decide) rfl (fun ls hl => ?_)
    refine lv_goto (tgt := 19) hx hb dX10_set_52 (by decide) ?_
    refine lv_iload hx hb dX10_set_19 (lv_at hl 0 rfl) ?_
    refine lv_bipush (v := 64) hx hb dX10_set_21 (by decide) ?_
    refine lv_icmp_ge (tgt := 55) hx hb dX10_set_23 (by decide) (fun c_ => absurd c_ (by decide +kernel)) (fun _ => ?_)
    refine lv_aload_n hx hb dX10_set_26 rfl (lv_at hl 2 rfl) ?_
    refine k_get hC hK hP iX10 2 61 wf_X10_218 rfl (by decide) rfl rfl dX10_set_27 ?_
    refine lv_iload hx hb dX10_set_30 (lv_at hl 0 rfl) ?_
    refine k_zald (v := 0) hC hK hP 3 7 rfl (by decide +kernel) (by decide) (by decide +kernel) dX10_set_32 ?_
    refine lv_if_ne (tgt := 39) hx hb dX10_set_33 (by decide) (fun c_ => absurd (by decide +kernel) c_) (fun _ => ?_)
    refine lv_goto (tgt := 49) hx hb dX10_set_36 (by decide) ?_
    refine lv_iinc (v := 8) (lv' := [(4, .int 8), (3, .int (x0 + Int32.ofInt (-1))), (0, .ref a0), (1, .int x0), (2, .int x1)]) hx hb dX10_set_49 hl (k := 0) rfl (by decide +kernel) (by decide) rfl (fun ls hl => ?_)
    refine lv_goto (tgt := 19) hx hb dX10_set_52 (by decide) ?_
    refine lv_iload hx hb dX10_set_19 (lv_at hl 0 rfl) ?_
    refine lv_bipush (v := 64) hx hb dX10_set_21 (by decide) ?_
    refine lv_icmp_ge (tgt := 55) hx hb dX10_set_23 (by decide) (fun c_ => absurd c_ (by decide +kernel)) (fun _ => ?_)
    refine lv_aload_n hx hb dX10_set_26 rfl (lv_at hl 2 rfl) ?_
    refine k_get hC hK hP iX10 2 61 wf_X10_218 rfl (by decide) rfl rfl dX10_set_27 ?_
    refine lv_iload hx hb dX10_set_30 (lv_at hl 0 rfl) ?_
    refine k_zald (v := 0) hC hK hP 3 8 rfl (by decide +kernel) (by decide) (by decide +kernel) dX10_set_32 ?_
    refine lv_if_ne (tgt := 39) hx hb dX10_set_33 (by decide) (fun c_ => absurd (by decide +kernel) c_) (fun _ => ?_)
    refine lv_goto (tgt := 49) hx hb dX10_set_36 (by decide) ?_
    refine lv_iinc (v := 9) (lv' := [(4, .int 9), (3, .int (x0 + Int32.ofInt (-1))), (0, .ref a0), (1, .int x0), (2, .int x1)]) hx hb dX10_set_49 hl (k := 0) rfl (by decide +kernel) (by decide) rfl (fun ls hl => ?_)
    refine lv_goto (tgt := 19) hx hb dX10_set_52 (by decide) ?_
    refine lv_iload hx hb dX10_set_19 (lv_at hl 0 rfl) ?_
    refine lv_bipush (v := 64) hx hb dX10_set_21 (by decide) ?_
    refine lv_icmp_ge (tgt := 55) hx hb dX10_set_23 (by decide) (fun c_ => absurd c_ (by decide +kernel)) (fun _ => ?_)
    refine lv_aload_n hx hb dX10_set_26 rfl (lv_at hl 2 rfl) ?_
    refine k_get hC hK hP iX10 2 61 wf_X10_218 rfl (by decide) rfl rfl dX10_set_27 ?_
    refine lv_iload hx hb dX10_set_30 (lv_at hl 0 rfl) ?_
    refine k_zald (v := 0) hC hK hP 3 9 rfl (by decide +kernel) (by decide) (by decide +kernel) dX10_set_32 ?_
    refine lv_if_ne (tgt := 39) hx hb dX10_set_33 (by decide) (fun c_ => absurd (by decide +kernel) c_) (fun _ => ?_)
    refine lv_goto (tgt := 49) hx hb dX10_set_36 (by decide) ?_
    refine lv_iinc (v := 10) (lv' := [(4, .int 10), (3, .int (x0 + Int32.ofInt (-1))), (0, .ref a0), (1, .int x0), (2, .int x1)]) hx hb dX10_set_49 hl (k := 0) rfl (by decide +kernel) (by decide) rfl (fun ls hl => ?_)
    refine lv_goto (tgt := 19) hx hb dX10_set_52 (by decide) ?_
    refine lv_iload hx hb dX10_set_19 (lv_at hl 0 rfl) ?_
    refine lv_bipush (v := 64) hx hb dX10_set_21 (by decide) ?_
    refine lv_icmp_ge (tgt := 55) hx hb dX10_set_23 (by decide) (fun c_ => absurd c_ (by decide +kernel)) (fun _ => ?_)
    refine lv_aload_n hx hb dX10_set_26 rfl (lv_at hl 2 rfl) ?_
    refine k_get hC hK hP iX10 2 61 wf_X10_218 rfl (by decide) rfl rfl dX10_set_27 ?_
    refine lv_iload hx hb dX10_set_30 (lv_at hl 0 rfl) ?_
    refine k_zald (v := 0) hC hK hP 3 10 rfl (by decide +kernel) (by decide) (by decide +kernel) dX10_set_32 ?_
    refine lv_if_ne (tgt := 39) hx hb dX10_set_33 (by decide) (fun c_ => absurd (by decide +kernel) c_) (fun _ => ?_)
    refine lv_goto (tgt := 49) hx hb dX10_set_36 (by decide) ?_
    refine lv_iinc (v := 11) (lv' := [(4, .int 11), (3, .int (x0 + Int32.ofInt (-1))), (0, .ref a0), (1, .int x0), (2, .int x1)]) hx hb dX10_set_49 hl (k := 0) rfl (by decide +kernel) (by decide) rfl (fun ls hl => ?_)
    refine lv_goto (tgt := 19) hx hb dX10_set_52 (by decide) ?_
    refine lv_iload hx hb dX10_set_19 (lv_at hl 0 rfl) ?_
    refine lv_bipush (v := 64) hx hb dX10_set_21 (by decide) ?_
    refine lv_icmp_ge (tgt := 55) hx hb dX10_set_23 (by decide) (fun c_ => absurd c_ (by decide +kernel)) (fun _ => ?_)
    refine lv_aload_n hx hb dX10_set_26 rfl (lv_at hl 2 rfl) ?_
    refine k_get hC hK hP iX10 2 61 wf_X10_218 rfl (by decide) rfl rfl dX10_set_27 ?_
    refine lv_iload hx hb dX10_set_30 (lv_at hl 0 rfl) ?_
    refine k_zald (v := 0) hC hK hP 3 11 rfl (by decide +kernel) (by decide) (by decide +kernel) dX10_set_32 ?_
    refine lv_if_ne (tgt := 39) hx hb dX10_set_33 (by decide) (fun c_ => absurd (by decide +kernel) c_) (fun _ => ?_)
    refine lv_goto (tgt := 49) hx hb dX10_set_36 (by decide) ?_
    refine lv_iinc (v := 12) (lv' := [(4, .int 12), (3, .int (x0 + Int32.ofInt (-1))), (0, .ref a0), (1, .int x0), (2, .int x1)]) hx hb dX10_set_49 hl (k := 0) rfl (by decide +kernel) (by decide) rfl (fun ls hl => ?_)
    refine lv_goto (tgt := 19) hx hb dX10_set_52 (by decide) ?_
    refine lv_iload hx hb dX10_set_19 (lv_at hl 0 rfl) ?_
    refine lv_bipush (v := 64) hx hb dX10_set_21 (by decide) ?_
    refine lv_icmp_ge (tgt := 55) hx hb dX10_set_23 (by decide) (fun c_ => absurd c_ (by decide +kernel)) (fun _ => ?_)
    refine lv_aload_n hx hb dX10_set_26 rfl (lv_at hl 2 rfl) ?_
    refine k_get hC hK hP iX10 2 61 wf_X10_218 rfl (by decide) rfl rfl dX10_set_27 ?_
    refine lv_iload hx hb dX10_set_30 (lv_at hl 0 rfl) ?_
    refine k_zald (v := 0) hC hK hP 3 12 rfl (by decide +kernel) (by decide) (by decide +kernel) dX10_set_32 ?_
    refine lv_if_ne (tgt := 39) hx hb dX10_set_33 (by decide) (fun c_ => absurd (by decide +kernel) c_) (fun _ => ?_)
    refine lv_goto (tgt := 49) hx hb dX10_set_36 (by decide) ?_
    refine lv_iinc (v := 13) (lv' := [(4, .int 13), (3, .int (x0 + Int32.ofInt (-1))), (0, .ref a0), (1, .int x0), (2, .int x1)]) hx hb dX10_set_49 hl (k := 0) rfl (by decide +kernel) (by decide) rfl (fun ls hl => ?_)
    refine lv_goto (tgt := 19) hx hb dX10_set_52 (by decide) ?_
    refine lv_iload hx hb dX10_set_19 (lv_at hl 0 rfl) ?_
    refine lv_bipush (v := 64) hx hb dX10_set_21 (by decide) ?_
    refine lv_icmp_ge (tgt := 55) hx hb dX10_set_23 (by decide) (fun c_ => absurd c_ (by decide +kernel)) (fun _ => ?_)
    refine lv_aload_n hx hb dX10_set_26 rfl (lv_at hl 2 rfl) ?_
    refine k_get hC hK hP iX10 2 61 wf_X10_218 rfl (by decide) rfl rfl dX10_set_27 ?_
    refine lv_iload hx hb dX10_set_30 (lv_at hl 0 rfl) ?_
    refine k_zald (v := 0) hC hK hP 3 13 rfl (by decide +kernel) (by decide) (by decide +kernel) dX10_set_32 ?_
    refine lv_if_ne (tgt := 39) hx hb dX10_set_33 (by decide) (fun c_ => absurd (by decide +kernel) c_) (fun _ => ?_)
    refine lv_goto (tgt := 49) hx hb dX10_set_36 (by decide) ?_
    refine lv_iinc (v := 14) (lv' := [(4, .int 14), (3, .int (x0 + Int32.ofInt (-1))), (0, .ref a0), (1, .int x0), (2, .int x1)]) hx hb dX10_set_49 hl (k := 0) rfl (by decide +kernel) (by decide) rfl (fun ls hl => ?_)
    refine lv_goto (tgt := 19) hx hb dX10_set_52 (by decide) ?_
    refine lv_iload hx hb dX10_set_19 (lv_at hl 0 rfl) ?_
    refine lv_bipush (v := 64) hx hb dX10_set_21 (by decide) ?_
    refine lv_icmp_ge (tgt := 55) hx hb dX10_set_23 (by decide) (fun c_ => absurd c_ (by decide +kernel)) (fun _ => ?_)
    refine lv_aload_n hx hb dX10_set_26 rfl (lv_at hl 2 rfl) ?_
    refine k_get hC hK hP iX10 2 61 wf_X10_218 rfl (by decide) rfl rfl dX10_set_27 ?_
    refine lv_iload hx hb dX10_set_30 (lv_at hl 0 rfl) ?_
    refine k_zald (v := 0) hC hK hP 3 14 rfl (by decide +kernel) (by decide) (by decide +kernel) dX10_set_32 ?_
    refine lv_if_ne (tgt := 39) hx hb dX10_set_33 (by decide) (fun c_ => absurd (by decide +kernel) c_) (fun _ => ?_)
    refine lv_goto (tgt := 49) hx hb dX10_set_36 (by decide) ?_
    refine lv_iinc (v := 15) (lv' := [(4, .int 15), (3, .int (x0 + Int32.ofInt (-1))), (0, .ref a0), (1, .int x0), (2, .int x1)]) hx hb dX10_set_49 hl (k := 0) rfl (by decide +kernel) (by decide) rfl (fun ls hl => ?_)
    refine lv_goto (tgt := 19) hx hb dX10_set_52 (by decide) ?_
    refine lv_iload hx hb dX10_set_19 (lv_at hl 0 rfl) ?_
    refine lv_bipush (v := 64) hx hb dX10_set_21 (by decide) ?_
    refine lv_icmp_ge (tgt := 55) hx hb dX10_set_23 (by decide) (fun c_ => absurd c_ (by decide +kernel)) (fun _ => ?_)
    refine lv_aload_n hx hb dX10_set_26 rfl (lv_at hl 2 rfl) ?_
    refine k_get hC hK hP iX10 2 61 wf_X10_218 rfl (by decide) rfl rfl dX10_set_27 ?_
    refine lv_iload hx hb dX10_set_30 (lv_at hl 0 rfl) ?_
    refine k_zald (v := 0) hC hK hP 3 15 rfl (by decide +kernel) (by decide) (by decide +kernel) dX10_set_32 ?_
    refine lv_if_ne (tgt := 39) hx hb dX10_set_33 (by decide) (fun c_ => absurd (by decide +kernel) c_) (fun _ => ?_)
    refine lv_goto (tgt := 49) hx hb dX10_set_36 (by decide) ?_
    refine lv_iinc (v := 16) (lv' := [(4, .int 16), (3, .int (x0 + Int32.ofInt (-1))), (0, .ref a0), (1, .int x0), (2, .int x1)]) hx hb dX10_set_49 hl (k := 0) rfl (by decide +kernel) (by decide) rfl (fun ls hl => ?_)
    refine lv_goto (tgt := 19) hx hb dX10_set_52 (by decide) ?_
    refine lv_iload hx hb dX10_set_19 (lv_at hl 0 rfl) ?_
    refine lv_bipush (v := 64) hx hb dX10_set_21 (by decide) ?_
    refine lv_icmp_ge (tgt := 55) hx hb dX10_set_23 (by decide) (fun c_ => absurd c_ (by decide +kernel)) (fun _ => ?_)
    refine lv_aload_n hx hb dX10_set_26 rfl (lv_at hl 2 rfl) ?_
    refine k_get hC hK hP iX10 2 61 wf_X10_218 rfl (by decide) rfl rfl dX10_set_27 ?_
    refine lv_iload hx hb dX10_set_30 (lv_at hl 0 rfl) ?_
    refine k_zald (v := 0) hC hK hP 3 16 rfl (by decide +kernel) (by decide) (by decide +kernel) dX10_set_32 ?_
    refine lv_if_ne (tgt := 39) hx hb dX10_set_33 (by decide) (fun c_ => absurd (by decide +kernel) c_) (fun _ => ?_)
    refine lv_goto (tgt := 49) hx hb dX10_set_36 (by decide) ?_
    refine lv_iinc (v := 17) (lv' := [(4, .int 17), (3, .int (x0 + Int32.ofInt (-1))), (0, .ref a0), (1, .int x0), (2, .int x1)]) hx hb dX10_set_49 hl (k := 0) rfl (by decide +kernel) (by decide) rfl (fun ls hl => ?_)
    refine lv_goto (tgt := 19) hx hb dX10_set_52 (by decide) ?_
    refine lv_iload hx hb dX10_set_19 (lv_at hl 0 rfl) ?_
    refine lv_bipush (v := 64) hx hb dX10_set_21 (by decide) ?_
    refine lv_icmp_ge (tgt := 55) hx hb dX10_set_23 (by decide) (fun c_ => absurd c_ (by decide +kernel)) (fun _ => ?_)
    refine lv_aload_n hx hb dX10_set_26 rfl (lv_at hl 2 rfl) ?_
    refine k_get hC hK hP iX10 2 61 wf_X10_218 rfl (by decide) rfl rfl dX10_set_27 ?_
    refine lv_iload hx hb dX10_set_30 (lv_at hl 0 rfl) ?_
    refine k_zald (v := 0) hC hK hP 3 17 rfl (by decide +kernel) (by decide) (by decide +kernel) dX10_set_32 ?_
    refine lv_if_ne (tgt := 39) hx hb dX10_set_33 (by decide) (fun c_ => absurd (by decide +kernel) c_) (fun _ => ?_)
    refine lv_goto (tgt := 49) hx hb dX10_set_36 (by decide) ?_
    refine lv_iinc (v := 18) (lv' := [(4, .int 18), (3, .int (x0 + Int32.ofInt (-1))), (0, .ref a0), (1, .int x0), (2, .int x1)]) hx hb dX10_set_49 hl (k := 0) rfl (by decide +kernel) (by decide) rfl (fun ls hl => ?_)
    refine lv_goto (tgt := 19) hx hb dX10_set_52 (by decide) ?_
    refine lv_iload hx hb dX10_set_19 (lv_at hl 0 rfl) ?_
    refine lv_bipush (v := 64) hx hb dX10_set_21 (by decide) ?_
    refine lv_icmp_ge (tgt := 55) hx hb dX10_set_23 (by decide) (fun c_ => absurd c_ (by decide +kernel)) (fun _ => ?_)
    refine lv_aload_n hx hb dX10_set_26 rfl (lv_at hl 2 rfl) ?_
    refine k_get hC hK hP iX10 2 61 wf_X10_218 rfl (by decide) rfl rfl dX10_set_27 ?_
    refine lv_iload hx hb dX10_set_30 (lv_at hl 0 rfl) ?_
    refine k_zald (v := 0) hC hK hP 3 18 rfl (by decide +kernel) (by decide) (by decide +kernel) dX10_set_32 ?_
    refine lv_if_ne (tgt := 39) hx hb dX10_set_33 (by decide) (fun c_ => absurd (by decide +kernel) c_) (fun _ => ?_)
    refine lv_goto (tgt := 49) hx hb dX10_set_36 (by decide) ?_
    refine lv_iinc (v := 19) (lv' := [(4, .int 19), (3, .int (x0 + Int32.ofInt (-1))), (0, .ref a0), (1, .int x0), (2, .int x1)]) hx hb dX10_set_49 hl (k := 0) rfl (by decide +kernel) (by decide) rfl (fun ls hl => ?_)
    refine lv_goto (tgt := 19) hx hb dX10_set_52 (by decide) ?_
    refine lv_iload hx hb dX10_set_19 (lv_at hl 0 rfl) ?_
    refine lv_bipush (v := 64) hx hb dX10_set_21 (by decide) ?_
    refine lv_icmp_ge (tgt := 55) hx hb dX10_set_23 (by decide) (fun c_ => absurd c_ (by decide +kernel)) (fun _ => ?_)
    refine lv_aload_n hx hb dX10_set_26 rfl (lv_at hl 2 rfl) ?_
    refine k_get hC hK hP iX10 2 61 wf_X10_218 rfl (by decide) rfl rfl dX10_set_27 ?_
    refine lv_iload hx hb dX10_set_30 (lv_at hl 0 rfl) ?_
    refine k_zald (v := 0) hC hK hP 3 19 rfl (by decide +kernel) (by decide) (by decide +kernel) dX10_set_32 ?_
    refine lv_if_ne (tgt := 39) hx hb dX10_set_33 (by decide) (fun c_ => absurd (by decide +kernel) c_) (fun _ => ?_)
    refine lv_goto (tgt := 49) hx hb dX10_set_36 (by decide) ?_
    refine lv_iinc (v := 20) (lv' := [(4, .int 20), (3, .int (x0 + Int32.ofInt (-1))), (0, .ref a0), (1, .int x0), (2, .int x1)]) hx hb dX10_set_49 hl (k := 0) rfl (by decide +kernel) (by decide) rfl (fun ls hl => ?_)
    refine lv_goto (tgt := 19) hx hb dX10_set_52 (by decide) ?_
    refine lv_iload hx hb dX10_set_19 (lv_at hl 0 rfl) ?_
    refine lv_bipush (v := 64) hx hb dX10_set_21 (by decide) ?_
    refine lv_icmp_ge (tgt := 55) hx hb dX10_set_23 (by decide) (fun c_ => absurd c_ (by decide +kernel)) (fun _ => ?_)
    refine lv_aload_n hx hb dX10_set_26 rfl (lv_at hl 2 rfl) ?_
    refine k_get hC hK hP iX10 2 61 wf_X10_218 rfl (by decide) rfl rfl dX10_set_27 ?_
    refine lv_iload hx hb dX10_set_30 (lv_at hl 0 rfl) ?_
    refine k_zald (v := 0) hC hK hP 3 20 rfl (by decide +kernel) (by decide) (by decide +kernel) dX10_set_32 ?_
    refine lv_if_ne (tgt := 39) hx hb dX10_set_33 (by decide) (fun c_ => absurd (by decide +kernel) c_) (fun _ => ?_)
    refine lv_goto (tgt := 49) hx hb dX10_set_36 (by decide) ?_
    refine lv_iinc (v := 21) (lv' := [(4, .int 21), (3, .int (x0 + Int32.ofInt (-1))), (0, .ref a0), (1, .int x0), (2, .int x1)]) hx hb dX10_set_49 hl (k := 0) rfl (by decide +kernel) (by decide) rfl (fun ls hl => ?_)
    refine lv_goto (tgt := 19) hx hb dX10_set_52 (by decide) ?_
    refine lv_iload hx hb dX10_set_19 (lv_at hl 0 rfl) ?_
    refine lv_bipush (v := 64) hx hb dX10_set_21 (by decide) ?_
    refine lv_icmp_ge (tgt := 55) hx hb dX10_set_23 (by decide) (fun c_ => absurd c_ (by decide +kernel)) (fun _ => ?_)
    refine lv_aload_n hx hb dX10_set_26 rfl (lv_at hl 2 rfl) ?_
    refine k_get hC hK hP iX10 2 61 wf_X10_218 rfl (by decide) rfl rfl dX10_set_27 ?_
    refine lv_iload hx hb dX10_set_30 (lv_at hl 0 rfl) ?_
    refine k_zald (v := 0) hC hK hP 3 21 rfl (by decide +kernel) (by decide) (by decide +kernel) dX10_set_32 ?_
    refine lv_if_ne (tgt := 39) hx hb dX10_set_33 (by decide) (fun c_ => absurd (by decide +kernel) c_) (fun _ => ?_)
    refine lv_goto (tgt := 49) hx hb dX10_set_36 (by decide) ?_
    refine lv_iinc (v := 22) (lv' := [(4, .int 22), (3, .int (x0 + Int32.ofInt (-1))), (0, .ref a0), (1, .int x0), (2, .int x1)]) hx hb dX10_set_49 hl (k := 0) rfl (by decide +kernel) (by decide) rfl (fun ls hl => ?_)
    refine lv_goto (tgt := 19) hx hb dX10_set_52 (by decide) ?_
    refine lv_iload hx hb dX10_set_19 (lv_at hl 0 rfl) ?_
    refine lv_bipush (v := 64) hx hb dX10_set_21 (by decide) ?_
    refine lv_icmp_ge (tgt := 55) hx hb dX10_set_23 (by decide) (fun c_ => absurd c_ (by decide +kernel)) (fun _ => ?_)
    refine lv_aload_n hx hb dX10_set_26 rfl (lv_at hl 2 rfl) ?_
    refine k_get hC hK hP iX10 2 61 wf_X10_218 rfl (by decide) rfl rfl dX10_set_27 ?_
    refine lv_iload hx hb dX10_set_30 (lv_at hl 0 rfl) ?_
    refine k_zald (v := 0) hC hK hP 3 22 rfl (by decide +kernel) (by decide) (by decide +kernel) dX10_set_32 ?_
    refine lv_if_ne (tgt := 39) hx hb dX10_set_33 (by decide) (fun c_ => absurd (by decide +kernel) c_) (fun _ => ?_)
    refine lv_goto (tgt := 49) hx hb dX10_set_36 (by decide) ?_
    refine lv_iinc (v := 23) (lv' := [(4, .int 23), (3, .int (x0 + Int32.ofInt (-1))), (0, .ref a0), (1, .int x0), (2, .int x1)]) hx hb dX10_set_49 hl (k := 0) rfl (by decide +kernel) (by decide) rfl (fun ls hl => ?_)
    refine lv_goto (tgt := 19) hx hb dX10_set_52 (by decide) ?_
    refine lv_iload hx hb dX10_set_19 (lv_at hl 0 rfl) ?_
    refine lv_bipush (v := 64) hx hb dX10_set_21 (by decide) ?_
    refine lv_icmp_ge (tgt := 55) hx hb dX10_set_23 (by decide) (fun c_ => absurd c_ (by decide +kernel)) (fun _ => ?_)
    refine lv_aload_n hx hb dX10_set_26 rfl (lv_at hl 2 rfl) ?_
    refine k_get hC hK hP iX10 2 61 wf_X10_218 rfl (by decide) rfl rfl dX10_set_27 ?_
    refine lv_iload hx hb dX10_set_30 (lv_at hl 0 rfl) ?_
    refine k_zald (v := 0) hC hK hP 3 23 rfl (by decide +kernel) (by decide) (by decide +kernel) dX10_set_32 ?_
    refine lv_if_ne (tgt := 39) hx hb dX10_set_33 (by decide) (fun c_ => absurd (by decide +kernel) c_) (fun _ => ?_)
    refine lv_goto (tgt := 49) hx hb dX10_set_36 (by decide) ?_
    refine lv_iinc (v := 24) (lv' := [(4, .int 24), (3, .int (x0 + Int32.ofInt (-1))), (0, .ref a0), (1, .int x0), (2, .int x1)]) hx hb dX10_set_49 hl (k := 0) rfl (by decide +kernel) (by decide) rfl (fun ls hl => ?_)
    refine lv_goto (tgt := 19) hx hb dX10_set_52 (by decide) ?_
    refine lv_iload hx hb dX10_set_19 (lv_at hl 0 rfl) ?_
    refine lv_bipush (v := 64) hx hb dX10_set_21 (by decide) ?_
    refine lv_icmp_ge (tgt := 55) hx hb dX10_set_23 (by decide) (fun c_ => absurd c_ (by decide +kernel)) (fun _ => ?_)
    refine lv_aload_n hx hb dX10_set_26 rfl (lv_at hl 2 rfl) ?_
    refine k_get hC hK hP iX10 2 61 wf_X10_218 rfl (by decide) rfl rfl dX10_set_27 ?_
    refine lv_iload hx hb dX10_set_30 (lv_at hl 0 rfl) ?_
    refine k_zald (v := 0) hC hK hP 3 24 rfl (by decide +kernel) (by decide) (by decide +kernel) dX10_set_32 ?_
    refine lv_if_ne (tgt := 39) hx hb dX10_set_33 (by decide) (fun c_ => absurd (by decide +kernel) c_) (fun _ => ?_)
    refine lv_goto (tgt := 49) hx hb dX10_set_36 (by decide) ?_
    refine lv_iinc (v := 25) (lv' := [(4, .int 25), (3, .int (x0 + Int32.ofInt (-1))), (0, .ref a0), (1, .int x0), (2, .int x1)]) hx hb dX10_set_49 hl (k := 0) rfl (by decide +kernel) (by decide) rfl (fun ls hl => ?_)
    refine lv_goto (tgt := 19) hx hb dX10_set_52 (by decide) ?_
    refine lv_iload hx hb dX10_set_19 (lv_at hl 0 rfl) ?_
    refine lv_bipush (v := 64) hx hb dX10_set_21 (by decide) ?_
    refine lv_icmp_ge (tgt := 55) hx hb dX10_set_23 (by decide) (fun c_ => absurd c_ (by decide +kernel)) (fun _ => ?_)
    refine lv_aload_n hx hb dX10_set_26 rfl (lv_at hl 2 rfl) ?_
    refine k_get hC hK hP iX10 2 61 wf_X10_218 rfl (by decide) rfl rfl dX10_set_27 ?_
    refine lv_iload hx hb dX10_set_30 (lv_at hl 0 rfl) ?_
    refine k_zald (v := 0) hC hK hP 3 25 rfl (by decide +kernel) (by decide) (by decide +kernel) dX10_set_32 ?_
    refine lv_if_ne (tgt := 39) hx hb dX10_set_33 (by decide) (fun c_ => absurd (by decide +kernel) c_) (fun _ => ?_)
    refine lv_goto (tgt := 49) hx hb dX10_set_36 (by decide) ?_
    refine lv_iinc (v := 26) (lv' := [(4, .int 26), (3, .int (x0 + Int32.ofInt (-1))), (0, .ref a0), (1, .int x0), (2, .int x1)]) hx hb dX10_set_49 hl (k := 0) rfl (by decide +kernel) (by decide) rfl (fun ls hl => ?_)
    refine lv_goto (tgt := 19) hx hb dX10_set_52 (by decide) ?_
    refine lv_iload hx hb dX10_set_19 (lv_at hl 0 rfl) ?_
    refine lv_bipush (v := 64) hx hb dX10_set_21 (by decide) ?_
    refine lv_icmp_ge (tgt := 55) hx hb dX10_set_23 (by decide) (fun c_ => absurd c_ (by decide +kernel)) (fun _ => ?_)
    refine lv_aload_n hx hb dX10_set_26 rfl (lv_at hl 2 rfl) ?_
    refine k_get hC hK hP iX10 2 61 wf_X10_218 rfl (by decide) rfl rfl dX10_set_27 ?_
    refine lv_iload hx hb dX10_set_30 (lv_at hl 0 rfl) ?_
    refine k_zald (v := 0) hC hK hP 3 26 rfl (by decide +kernel) (by decide) (by decide +kernel) dX10_set_32 ?_
    refine lv_if_ne (tgt := 39) hx hb dX10_set_33 (by decide) (fun c_ => absurd (by decide +kernel) c_) (fun _ => ?_)
    refine lv_goto (tgt := 49) hx hb dX10_set_36 (by decide) ?_
    refine lv_iinc (v := 27) (lv' := [(4, .int 27), (3, .int (x0 + Int32.ofInt (-1))), (0, .ref a0), (1, .int x0), (2, .int x1)]) hx hb dX10_set_49 hl (k := 0) rfl (by decide +kernel) (by decide) rfl (fun ls hl => ?_)
    refine lv_goto (tgt := 19) hx hb dX10_set_52 (by decide) ?_
    refine lv_iload hx hb dX10_set_19 (lv_at hl 0 rfl) ?_
    refine lv_bipush (v := 64) hx hb dX10_set_21 (by decide) ?_
    refine lv_icmp_ge (tgt := 55) hx hb dX10_set_23 (by decide) (fun c_ => absurd c_ (by decide +kernel)) (fun _ => ?_)
    refine lv_aload_n hx hb dX10_set_26 rfl (lv_at hl 2 rfl) ?_
    refine k_get hC hK hP iX10 2 61 wf_X10_218 rfl (by decide) rfl rfl dX10_set_27 ?_
    refine lv_iload hx hb dX10_set_30 (lv_at hl 0 rfl) ?_
    refine k_zald (v := 0) hC hK hP 3 27 rfl (by decide +kernel) (by decide) (by decide +kernel) dX10_set_32 ?_
    refine lv_if_ne (tgt := 39) hx hb dX10_set_33 (by decide) (fun c_ => absurd (by decide +kernel) c_) (fun _ => ?_)
    refine lv_goto (tgt := 49) hx hb dX10_set_36 (by decide) ?_
    refine lv_iinc (v := 28) (lv' := [(4, .int 28), (3, .int (x0 + Int32.ofInt (-1))), (0, .ref a0), (1, .int x0), (2, .int x1)]) hx hb dX10_set_49 hl (k := 0) rfl (by decide +kernel) (by decide) rfl (fun ls hl => ?_)
    refine lv_goto (tgt := 19) hx hb dX10_set_52 (by decide) ?_
    refine lv_iload hx hb dX10_set_19 (lv_at hl 0 rfl) ?_
    refine lv_bipush (v := 64) hx hb dX10_set_21 (by decide) ?_
    refine lv_icmp_ge (tgt := 55) hx hb dX10_set_23 (by decide) (fun c_ => absurd c_ (by decide +kernel)) (fun _ => ?_)
    refine lv_aload_n hx hb dX10_set_26 rfl (lv_at hl 2 rfl) ?_
    refine k_get hC hK hP iX10 2 61 wf_X10_218 rfl (by decide) rfl rfl dX10_set_27 ?_
    refine lv_iload hx hb dX10_set_30 (lv_at hl 0 rfl) ?_
    refine k_zald (v := 0) hC hK hP 3 28 rfl (by decide +kernel) (by decide) (by decide +kernel) dX10_set_32 ?_
    refine lv_if_ne (tgt := 39) hx hb dX10_set_33 (by decide) (fun c_ => absurd (by decide +kernel) c_) (fun _ => ?_)
    refine lv_goto (tgt := 49) hx hb dX10_set_36 (by decide) ?_
    refine lv_iinc (v := 29) (lv' := [(4, .int 29), (3, .int (x0 + Int32.ofInt (-1))), (0, .ref a0), (1, .int x0), (2, .int x1)]) hx hb dX10_set_49 hl (k := 0) rfl (by decide +kernel) (by decide) rfl (fun ls hl => ?_)
    refine lv_goto (tgt := 19) hx hb dX10_set_52 (by decide) ?_
    refine lv_iload hx hb dX10_set_19 (lv_at hl 0 rfl) ?_
    refine lv_bipush (v := 64) hx hb dX10_set_21 (by decide) ?_
    refine lv_icmp_ge (tgt := 55) hx hb dX10_set_23 (by decide) (fun c_ => absurd c_ (by decide +kernel)) (fun _ => ?_)
    refine lv_aload_n hx hb dX10_set_26 rfl (lv_at hl 2 rfl) ?_
    refine k_get hC hK hP iX10 2 61 wf_X10_218 rfl (by decide) rfl rfl dX10_set_27 ?_
    refine lv_iload hx hb dX10_set_30 (lv_at hl 0 rfl) ?_
    refine k_zald (v := 0) hC hK hP 3 29 rfl (by decide +kernel) (by decide) (by decide +kernel) dX10_set_32 ?_
    refine lv_if_ne (tgt := 39) hx hb dX10_set_33 (by decide) (fun c_ => absurd (by decide +kernel) c_) (fun _ => ?_)
    refine lv_goto (tgt := 49) hx hb dX10_set_36 (by decide) ?_
    refine lv_iinc (v := 30) (lv' := [(4, .int 30), (3, .int (x0 + Int32.ofInt (-1))), (0, .ref a0), (1, .int x0), (2, .int x1)]) hx hb dX10_set_49 hl (k := 0) rfl (by decide +kernel) (by decide) rfl (fun ls hl => ?_)
    refine lv_goto (tgt := 19) hx hb dX10_set_52 (by decide) ?_
    refine lv_iload hx hb dX10_set_19 (lv_at hl 0 rfl) ?_
    refine lv_bipush (v := 64) hx hb dX10_set_21 (by decide) ?_
    refine lv_icmp_ge (tgt := 55) hx hb dX10_set_23 (by decide) (fun c_ => absurd c_ (by decide +kernel)) (fun _ => ?_)
    refine lv_aload_n hx hb dX10_set_26 rfl (lv_at hl 2 rfl) ?_
    refine k_get hC hK hP iX10 2 61 wf_X10_218 rfl (by decide) rfl rfl dX10_set_27 ?_
    refine lv_iload hx hb dX10_set_30 (lv_at hl 0 rfl) ?_
    refine k_zald (v := 0) hC hK hP 3 30 rfl (by decide +kernel) (by decide) (by decide +kernel) dX10_set_32 ?_
    refine lv_if_ne (tgt := 39) hx hb dX10_set_33 (by decide) (fun c_ => absurd (by decide +kernel) c_) (fun _ => ?_)
    refine lv_goto (tgt := 49) hx hb dX10_set_36 (by decide) ?_
    refine lv_iinc (v := 31) (lv' := [(4, .int 31), (3, .int (x0 + Int32.ofInt (-1))), (0, .ref a0), (1, .int x0), (2, .int x1)]) hx hb dX10_set_49 hl (k := 0) rfl (by decide +kernel) (by decide) rfl (fun ls hl => ?_)
    refine lv_goto (tgt := 19) hx hb dX10_set_52 (by decide) ?_
    refine lv_iload hx hb dX10_set_19 (lv_at hl 0 rfl) ?_
    refine lv_bipush (v := 64) hx hb dX10_set_21 (by decide) ?_
    refine lv_icmp_ge (tgt := 55) hx hb dX10_set_23 (by decide) (fun c_ => absurd c_ (by decide +kernel)) (fun _ => ?_)
    refine lv_aload_n hx hb dX10_set_26 rfl (lv_at hl 2 rfl) ?_
    refine k_get hC hK hP iX10 2 61 wf_X10_218 rfl (by decide) rfl rfl dX10_set_27 ?_
    refine lv_iload hx hb dX10_set_30 (lv_at hl 0 rfl) ?_
    refine k_zald (v := 0) hC hK hP 3 31 rfl (by decide +kernel) (by decide) (by decide +kernel) dX10_set_32 ?_
    refine lv_if_ne (tgt := 39) hx hb dX10_set_33 (by decide) (fun c_ => absurd (by decide +kernel) c_) (fun _ => ?_)
    refine lv_goto (tgt := 49) hx hb dX10_set_36 (by decide) ?_
    refine lv_iinc (v := 32) (lv' := [(4, .int 32), (3, .int (x0 + Int32.ofInt (-1))), (0, .ref a0), (1, .int x0), (2, .int x1)]) hx hb dX10_set_49 hl (k := 0) rfl (by decide +kernel) (by decide) rfl (fun ls hl => ?_)
    refine lv_goto (tgt := 19) hx hb dX10_set_52 (by decide) ?_
    refine lv_iload hx hb dX10_set_19 (lv_at hl 0 rfl) ?_
    refine lv_bipush (v := 64) hx hb dX10_set_21 (by decide) ?_
    refine lv_icmp_ge (tgt := 55) hx hb dX10_set_23 (by decide) (fun c_ => absurd c_ (by decide +kernel)) (fun _ => ?_)
    refine lv_aload_n hx hb dX10_set_26 rfl (lv_at hl 2 rfl) ?_
    refine k_get hC hK hP iX10 2 61 wf_X10_218 rfl (by decide) rfl rfl dX10_set_27 ?_
    refine lv_iload hx hb dX10_set_30 (lv_at hl 0 rfl) ?_
    refine k_zald (v := 0) hC hK hP 3 32 rfl (by decide +kernel) (by decide) (by decide +kernel) dX10_set_32 ?_
    refine lv_if_ne (tgt := 39) hx hb dX10_set_33 (by decide) (fun c_ => absurd (by decide +kernel) c_) (fun _ => ?_)
    refine lv_goto (tgt := 49) hx hb dX10_set_36 (by decide) ?_
    refine lv_iinc (v := 33) (lv' := [(4, .int 33), (3, .int (x0 + Int32.ofInt (-1))), (0, .ref a0), (1, .int x0), (2, .int x1)]) hx hb dX10_set_49 hl (k := 0) rfl (by decide +kernel) (by decide) rfl (fun ls hl => ?_)
    refine lv_goto (tgt := 19) hx hb dX10_set_52 (by decide) ?_
    refine lv_iload hx hb dX10_set_19 (lv_at hl 0 rfl) ?_
    refine lv_bipush (v := 64) hx hb dX10_set_21 (by decide) ?_
    refine lv_icmp_ge (tgt := 55) hx hb dX10_set_23 (by decide) (fun c_ => absurd c_ (by decide +kernel)) (fun _ => ?_)
    refine lv_aload_n hx hb dX10_set_26 rfl (lv_at hl 2 rfl) ?_
    refine k_get hC hK hP iX10 2 61 wf_X10_218 rfl (by decide) rfl rfl dX10_set_27 ?_
    refine lv_iload hx hb dX10_set_30 (lv_at hl 0 rfl) ?_
    refine k_zald (v := 0) hC hK hP 3 33 rfl (by decide +kernel) (by decide) (by decide +kernel) dX10_set_32 ?_
    refine lv_if_ne (tgt := 39) hx hb dX10_set_33 (by decide) (fun c_ => absurd (by decide +kernel) c_) (fun _ => ?_)
    refine lv_goto (tgt := 49) hx hb dX10_set_36 (by decide) ?_
    refine lv_iinc (v := 34) (lv' := [(4, .int 34), (3, .int (x0 + Int32.ofInt (-1))), (0, .ref a0), (1, .int x0), (2, .int x1)]) hx hb dX10_set_49 hl (k := 0) rfl (by decide +kernel) (by decide) rfl (fun ls hl => ?_)
    refine lv_goto (tgt := 19) hx hb dX10_set_52 (by decide) ?_
    refine lv_iload hx hb dX10_set_19 (lv_at hl 0 rfl) ?_
    refine lv_bipush (v := 64) hx hb dX10_set_21 (by decide) ?_
    refine lv_icmp_ge (tgt := 55) hx hb dX10_set_23 (by decide) (fun c_ => absurd c_ (by decide +kernel)) (fun _ => ?_)
    refine lv_aload_n hx hb dX10_set_26 rfl (lv_at hl 2 rfl) ?_
    refine k_get hC hK hP iX10 2 61 wf_X10_218 rfl (by decide) rfl rfl dX10_set_27 ?_
    refine lv_iload hx hb dX10_set_30 (lv_at hl 0 rfl) ?_
    refine k_zald (v := 0) hC hK hP 3 34 rfl (by decide +kernel) (by decide) (by decide +kernel) dX10_set_32 ?_
    refine lv_if_ne (tgt := 39) hx hb dX10_set_33 (by decide) (fun c_ => absurd (by decide +kernel) c_) (fun _ => ?_)
    refine lv_goto (tgt := 49) hx hb dX10_set_36 (by decide) ?_
    refine lv_iinc (v := 35) (lv' := [(4, .int 35), (3, .int (x0 + Int32.ofInt (-1))), (0, .ref a0), (1, .int x0), (2, .int x1)]) hx hb dX10_set_49 hl (k := 0) rfl (by decide +kernel) (by decide) rfl (fun ls hl => ?_)
    refine lv_goto (tgt := 19) hx hb dX10_set_52 (by decide) ?_
    refine lv_iload hx hb dX10_set_19 (lv_at hl 0 rfl) ?_
    refine lv_bipush (v := 64) hx hb dX10_set_21 (by decide) ?_
    refine lv_icmp_ge (tgt := 55) hx hb dX10_set_23 (by decide) (fun c_ => absurd c_ (by decide +kernel)) (fun _ => ?_)
    refine lv_aload_n hx hb dX10_set_26 rfl (lv_at hl 2 rfl) ?_
    refine k_get hC hK hP iX10 2 61 wf_X10_218 rfl (by decide) rfl rfl dX10_set_27 ?_
    refine lv_iload hx hb dX10_set_30 (lv_at hl 0 rfl) ?_
    refine k_zald (v := 0) hC hK hP 3 35 rfl (by decide +kernel) (by decide) (by decide +kernel) dX10_set_32 ?_
    refine lv_if_ne (tgt := 39) hx hb dX10_set_33 (by decide) (fun c_ => absurd (by decide +kernel) c_) (fun _ => ?_)
    refine lv_goto (tgt := 49) hx hb dX10_set_36 (by decide) ?_
    refine lv_iinc (v := 36) (lv' := [(4, .int 36), (3, .int (x0 + Int32.ofInt (-1))), (0, .ref a0), (1, .int x0), (2, .int x1)]) hx hb dX10_set_49 hl (k := 0) rfl (by decide +kernel) (by decide) rfl (fun ls hl => ?_)
    refine lv_goto (tgt := 19) hx hb dX10_set_52 (by decide) ?_
    refine lv_iload hx hb dX10_set_19 (lv_at hl 0 rfl) ?_
    refine lv_bipush (v := 64) hx hb dX10_set_21 (by decide) ?_
    refine lv_icmp_ge (tgt := 55) hx hb dX10_set_23 (by decide) (fun c_ => absurd c_ (by decide +kernel)) (fun _ => ?_)
    refine lv_aload_n hx hb dX10_set_26 rfl (lv_at hl 2 rfl) ?_
    refine k_get hC hK hP iX10 2 61 wf_X10_218 rfl (by decide) rfl rfl dX10_set_27 ?_
    refine lv_iload hx hb dX10_set_30 (lv_at hl 0 rfl) ?_
    refine k_zald (v := 0) hC hK hP 3 36 rfl (by decide +kernel) (by decide) (by decide +kernel) dX10_set_32 ?_
    refine lv_if_ne (tgt := 39) hx hb dX10_set_33 (by decide) (fun c_ => absurd (by decide +kernel) c_) (fun _ => ?_)
    refine lv_goto (tgt := 49) hx hb dX10_set_36 (by decide) ?_
    refine lv_iinc (v := 37) (lv' := [(4, .int 37), (3, .int (x0 + Int32.ofInt (-1))), (0, .ref a0), (1, .int x0), (2, .int x1)]) hx hb dX10_set_49 hl (k := 0) rfl (by decide +kernel) (by decide) rfl (fun ls hl => ?_)
    refine lv_goto (tgt := 19) hx hb dX10_set_52 (by decide) ?_
    refine lv_iload hx hb dX10_set_19 (lv_at hl 0 rfl) ?_
    refine lv_bipush (v := 64) hx hb dX10_set_21 (by decide) ?_
    refine lv_icmp_ge (tgt := 55) hx hb dX10_set_23 (by decide) (fun c_ => absurd c_ (by decide +kernel)) (fun _ => ?_)
    refine lv_aload_n hx hb dX10_set_26 rfl (lv_at hl 2 rfl) ?_
    refine k_get hC hK hP iX10 2 61 wf_X10_218 rfl (by decide) rfl rfl dX10_set_27 ?_
    refine lv_iload hx hb dX10_set_30 (lv_at hl 0 rfl) ?_
    refine k_zald (v := 0) hC hK hP 3 37 rfl (by decide +kernel) (by decide) (by decide +kernel) dX10_set_32 ?_
    refine lv_if_ne (tgt := 39) hx hb dX10_set_33 (by decide) (fun c_ => absurd (by decide +kernel) c_) (fun _ => ?_)
    refine lv_goto (tgt := 49) hx hb dX10_set_36 (by decide) ?_
    refine lv_iinc (v := 38) (lv' := [(4, .int 38), (3, .int (x0 + Int32.ofInt (-1))), (0, .ref a0), (1, .int x0), (2, .int x1)]) hx hb dX10_set_49 hl (k := 0) rfl (by decide +kernel) (by decide) rfl (fun ls hl => ?_)
    refine lv_goto (tgt := 19) hx hb dX10_set_52 (by decide) ?_
    refine lv_iload hx hb dX10_set_19 (lv_at hl 0 rfl) ?_
    refine lv_bipush (v := 64) hx hb dX10_set_21 (by decide) ?_
    refine lv_icmp_ge (tgt := 55) hx hb dX10_set_23 (by decide) (fun c_ => absurd c_ (by decide +kernel)) (fun _ => ?_)
    refine lv_aload_n hx hb dX10_set_26 rfl (lv_at hl 2 rfl) ?_
    refine k_get hC hK hP iX10 2 61 wf_X10_218 rfl (by decide) rfl rfl dX10_set_27 ?_
    refine lv_iload hx hb dX10_set_30 (lv_at hl 0 rfl) ?_
    refine k_zald (v := 0) hC hK hP 3 38 rfl (by decide +kernel) (by decide) (by decide +kernel) dX10_set_32 ?_
    refine lv_if_ne (tgt := 39) hx hb dX10_set_33 (by decide) (fun c_ => absurd (by decide +kernel) c_) (fun _ => ?_)
    refine lv_goto (tgt := 49) hx hb dX10_set_36 (by decide) ?_
    refine lv_iinc (v := 39) (lv' := [(4, .int 39), (3, .int (x0 + Int32.ofInt (-1))), (0, .ref a0), (1, .int x0), (2, .int x1)]) hx hb dX10_set_49 hl (k := 0) rfl (by decide +kernel) (by decide) rfl (fun ls hl => ?_)
    refine lv_goto (tgt := 19) hx hb dX10_set_52 (by decide) ?_
    refine lv_iload hx hb dX10_set_19 (lv_at hl 0 rfl) ?_
    refine lv_bipush (v := 64) hx hb dX10_set_21 (by decide) ?_
    refine lv_icmp_ge (tgt := 55) hx hb dX10_set_23 (by decide) (fun c_ => absurd c_ (by decide +kernel)) (fun _ => ?_)
    refine lv_aload_n hx hb dX10_set_26 rfl (lv_at hl 2 rfl) ?_
    refine k_get hC hK hP iX10 2 61 wf_X10_218 rfl (by decide) rfl rfl dX10_set_27 ?_
    refine lv_iload hx hb dX10_set_30 (lv_at hl 0 rfl) ?_
    refine k_zald (v := 0) hC hK hP 3 39 rfl (by decide +kernel) (by decide) (by decide +kernel) dX10_set_32 ?_
    refine lv_if_ne (tgt := 39) hx hb dX10_set_33 (by decide) (fun c_ => absurd (by decide +kernel) c_) (fun _ => ?_)
    refine lv_goto (tgt := 49) hx hb dX10_set_36 (by decide) ?_
    refine lv_iinc (v := 40) (lv' := [(4, .int 40), (3, .int (x0 + Int32.ofInt (-1))), (0, .ref a0), (1, .int x0), (2, .int x1)]) hx hb dX10_set_49 hl (k := 0) rfl (by decide +kernel) (by decide) rfl (fun ls hl => ?_)
    refine lv_goto (tgt := 19) hx hb dX10_set_52 (by decide) ?_
    refine lv_iload hx hb dX10_set_19 (lv_at hl 0 rfl) ?_
    refine lv_bipush (v := 64) hx hb dX10_set_21 (by decide) ?_
    refine lv_icmp_ge (tgt := 55) hx hb dX10_set_23 (by decide) (fun c_ => absurd c_ (by decide +kernel)) (fun _ => ?_)
    refine lv_aload_n hx hb dX10_set_26 rfl (lv_at hl 2 rfl) ?_
    refine k_get hC hK hP iX10 2 61 wf_X10_218 rfl (by decide) rfl rfl dX10_set_27 ?_
    refine lv_iload hx hb dX10_set_30 (lv_at hl 0 rfl) ?_
    refine k_zald (v := 0) hC hK hP 3 40 rfl (by decide +kernel) (by decide) (by decide +kernel) dX10_set_32 ?_
    refine lv_if_ne (tgt := 39) hx hb dX10_set_33 (by decide) (fun c_ => absurd (by decide +kernel) c_) (fun _ => ?_)
    refine lv_goto (tgt := 49) hx hb dX10_set_36 (by decide) ?_
    refine lv_iinc (v := 41) (lv' := [(4, .int 41), (3, .int (x0 + Int32.ofInt (-1))), (0, .ref a0), (1, .int x0), (2, .int x1)]) hx hb dX10_set_49 hl (k := 0) rfl (by decide +kernel) (by decide) rfl (fun ls hl => ?_)
    refine lv_goto (tgt := 19) hx hb dX10_set_52 (by decide) ?_
    refine lv_iload hx hb dX10_set_19 (lv_at hl 0 rfl) ?_
    refine lv_bipush (v := 64) hx hb dX10_set_21 (by decide) ?_
    refine lv_icmp_ge (tgt := 55) hx hb dX10_set_23 (by decide) (fun c_ => absurd c_ (by decide +kernel)) (fun _ => ?_)
    refine lv_aload_n hx hb dX10_set_26 rfl (lv_at hl 2 rfl) ?_
    refine k_get hC hK hP iX10 2 61 wf_X10_218 rfl (by decide) rfl rfl dX10_set_27 ?_
    refine lv_iload hx hb dX10_set_30 (lv_at hl 0 rfl) ?_
    refine k_zald (v := 0) hC hK hP 3 41 rfl (by decide +kernel) (by decide) (by decide +kernel) dX10_set_32 ?_
    refine lv_if_ne (tgt := 39) hx hb dX10_set_33 (by decide) (fun c_ => absurd (by decide +kernel) c_) (fun _ => ?_)
    refine lv_goto (tgt := 49) hx hb dX10_set_36 (by decide) ?_
    refine lv_iinc (v := 42) (lv' := [(4, .int 42), (3, .int (x0 + Int32.ofInt (-1))), (0, .ref a0), (1, .int x0), (2, .int x1)]) hx hb dX10_set_49 hl (k := 0) rfl (by decide +kernel) (by decide) rfl (fun ls hl => ?_)
    refine lv_goto (tgt := 19) hx hb dX10_set_52 (by decide) ?_
    refine lv_iload hx hb dX10_set_19 (lv_at hl 0 rfl) ?_
    refine lv_bipush (v := 64) hx hb dX10_set_21 (by decide) ?_
    refine lv_icmp_ge (tgt := 55) hx hb dX10_set_23 (by decide) (fun c_ => absurd c_ (by decide +kernel)) (fun _ => ?_)
    refine lv_aload_n hx hb dX10_set_26 rfl (lv_at hl 2 rfl) ?_
    refine k_get hC hK hP iX10 2 61 wf_X10_218 rfl (by decide) rfl rfl dX10_set_27 ?_
    refine lv_iload hx hb dX10_set_30 (lv_at hl 0 rfl) ?_
    refine k_zald (v := 0) hC hK hP 3 42 rfl (by decide +kernel) (by decide) (by decide +kernel) dX10_set_32 ?_
    refine lv_if_ne (tgt := 39) hx hb dX10_set_33 (by decide) (fun c_ => absurd (by decide +kernel) c_) (fun _ => ?_)
    refine lv_goto (tgt := 49) hx hb dX10_set_36 (by decide) ?_
    refine lv_iinc (v := 43) (lv' := [(4, .int 43), (3, .int (x0 + Int32.ofInt (-1))), (0, .ref a0), (1, .int x0), (2, .int x1)]) hx hb dX10_set_49 hl (k := 0) rfl (by decide +kernel) (by decide) rfl (fun ls hl => ?_)
    refine lv_goto (tgt := 19) hx hb dX10_set_52 (by decide) ?_
    refine lv_iload hx hb dX10_set_19 (lv_at hl 0 rfl) ?_
    refine lv_bipush (v := 64) hx hb dX10_set_21 (by decide) ?_
    refine lv_icmp_ge (tgt := 55) hx hb dX10_set_23 (by decide) (fun c_ => absurd c_ (by decide +kernel)) (fun _ => ?_)
    refine lv_aload_n hx hb dX10_set_26 rfl (lv_at hl 2 rfl) ?_
    refine k_get hC hK hP iX10 2 61 wf_X10_218 rfl (by decide) rfl rfl dX10_set_27 ?_
    refine lv_iload hx hb dX10_set_30 (lv_at hl 0 rfl) ?_
    refine k_zald (v := 0) hC hK hP 3 43 rfl (by decide +kernel) (by decide) (by decide +kernel) dX10_set_32 ?_
    refine lv_if_ne (tgt := 39) hx hb dX10_set_33 (by decide) (fun c_ => absurd (by decide +kernel) c_) (fun _ => ?_)
    refine lv_goto (tgt := 49) hx hb dX10_set_36 (by decide) ?_
    refine lv_iinc (v := 44) (lv' := [(4, .int 44), (3, .int (x0 + Int32.ofInt (-1))), (0, .ref a0), (1, .int x0), (2, .int x1)]) hx hb dX10_set_49 hl (k := 0) rfl (by decide +kernel) (by decide) rfl (fun ls hl => ?_)
    refine lv_goto (tgt := 19) hx hb dX10_set_52 (by decide) ?_
    refine lv_iload hx hb dX10_set_19 (lv_at hl 0 rfl) ?_
    refine lv_bipush (v := 64) hx hb dX10_set_21 (by decide) ?_
    refine lv_icmp_ge (tgt := 55) hx hb dX10_set_23 (by decide) (fun c_ => absurd c_ (by decide +kernel)) (fun _ => ?_)
    refine lv_aload_n hx hb dX10_set_26 rfl (lv_at hl 2 rfl) ?_
    refine k_get hC hK hP iX10 2 61 wf_X10_218 rfl (by decide) rfl rfl dX10_set_27 ?_
    refine lv_iload hx hb dX10_set_30 (lv_at hl 0 rfl) ?_
    refine k_zald (v := 0) hC hK hP 3 44 rfl (by decide +kernel) (by decide) (by decide +kernel) dX10_set_32 ?_
    refine lv_if_ne (tgt := 39) hx hb dX10_set_33 (by decide) (fun c_ => absurd (by decide +kernel) c_) (fun _ => ?_)
    refine lv_goto (tgt := 49) hx hb dX10_set_36 (by decide) ?_
    refine lv_iinc (v := 45) (lv' := [(4, .int 45), (3, .int (x0 + Int32.ofInt (-1))), (0, .ref a0), (1, .int x0), (2, .int x1)]) hx hb dX10_set_49 hl (k := 0) rfl (by decide +kernel) (by decide) rfl (fun ls hl => ?_)
    refine lv_goto (tgt := 19) hx hb dX10_set_52 (by decide) ?_
    refine lv_iload hx hb dX10_set_19 (lv_at hl 0 rfl) ?_
    refine lv_bipush (v := 64) hx hb dX10_set_21 (by decide) ?_
    refine lv_icmp_ge (tgt := 55) hx hb dX10_set_23 (by decide) (fun c_ => absurd c_ (by decide +kernel)) (fun _ => ?_)
    refine lv_aload_n hx hb dX10_set_26 rfl (lv_at hl 2 rfl) ?_
    refine k_get hC hK hP iX10 2 61 wf_X10_218 rfl (by decide) rfl rfl dX10_set_27 ?_
    refine lv_iload hx hb dX10_set_30 (lv_at hl 0 rfl) ?_
    refine k_zald (v := 0) hC hK hP 3 45 rfl (by decide +kernel) (by decide) (by decide +kernel) dX10_set_32 ?_
    refine lv_if_ne (tgt := 39) hx hb dX10_set_33 (by decide) (fun c_ => absurd (by decide +kernel) c_) (fun _ => ?_)
    refine lv_goto (tgt := 49) hx hb dX10_set_36 (by decide) ?_
    refine lv_iinc (v := 46) (lv' := [(4, .int 46), (3, .int (x0 + Int32.ofInt (-1))), (0, .ref a0), (1, .int x0), (2, .int x1)]) hx hb dX10_set_49 hl (k := 0) rfl (by decide +kernel) (by decide) rfl (fun ls hl => ?_)
    refine lv_goto (tgt := 19) hx hb dX10_set_52 (by decide) ?_
    refine lv_iload hx hb dX10_set_19 (lv_at hl 0 rfl) ?_
    refine lv_bipush (v := 64) hx hb dX10_set_21 (by decide) ?_
    refine lv_icmp_ge (tgt := 55) hx hb dX10_set_23 (by decide) (fun c_ => absurd c_ (by decide +kernel)) (fun _ => ?_)
    refine lv_aload_n hx hb dX10_set_26 rfl (lv_at hl 2 rfl) ?_
    refine k_get hC hK hP iX10 2 61 wf_X10_218 rfl (by decide) rfl rfl dX10_set_27 ?_
    refine lv_iload hx hb dX10_set_30 (lv_at hl 0 rfl) ?_
    refine k_zald (v := 0) hC hK hP 3 46 rfl (by decide +kernel) (by decide) (by decide +kernel) dX10_set_32 ?_
    refine lv_if_ne (tgt := 39) hx hb dX10_set_33 (by decide) (fun c_ => absurd (by decide +kernel) c_) (fun _ => ?_)
    refine lv_goto (tgt := 49) hx hb dX10_set_36 (by decide) ?_
    refine lv_iinc (v := 47) (lv' := [(4, .int 47), (3, .int (x0 + Int32.ofInt (-1))), (0, .ref a0), (1, .int x0), (2, .int x1)]) hx hb dX10_set_49 hl (k := 0) rfl (by decide +kernel) (by decide) rfl (fun ls hl => ?_)
    refine lv_goto (tgt := 19) hx hb dX10_set_52 (by decide) ?_
    refine lv_iload hx hb dX10_set_19 (lv_at hl 0 rfl) ?_
    refine lv_bipush (v := 64) hx hb dX10_set_21 (by decide) ?_
    refine lv_icmp_ge (tgt := 55) hx hb dX10_set_23 (by decide) (fun c_ => absurd c_ (by decide +kernel)) (fun _ => ?_)
    refine lv_aload_n hx hb dX10_set_26 rfl (lv_at hl 2 rfl) ?_
    refine k_get hC hK hP iX10 2 61 wf_X10_218 rfl (by decide) rfl rfl dX10_set_27 ?_
    refine lv_iload hx hb dX10_set_30 (lv_at hl 0 rfl) ?_
    refine k_zald (v := 0) hC hK hP 3 47 rfl (by decide +kernel) (by decide) (by decide +kernel) dX10_set_32 ?_
    refine lv_if_ne (tgt := 39) hx hb dX10_set_33 (by decide) (fun c_ => absurd (by decide +kernel) c_) (fun _ => ?_)
    refine lv_goto (tgt := 49) hx hb dX10_set_36 (by decide) ?_
    refine lv_iinc (v := 48) (lv' := [(4, .int 48), (3, .int (x0 + Int32.ofInt (-1))), (0, .ref a0), (1, .int x0), (2, .int x1)]) hx hb dX10_set_49 hl (k := 0) rfl (by decide +kernel) (by decide) rfl (fun ls hl => ?_)
    refine lv_goto (tgt := 19) hx hb dX10_set_52 (by decide) ?_
    refine lv_iload hx hb dX10_set_19 (lv_at hl 0 rfl) ?_
    refine lv_bipush (v := 64) hx hb dX10_set_21 (by decide) ?_
    refine lv_icmp_ge (tgt := 55) hx hb dX10_set_23 (by decide) (fun c_ => absurd c_ (by decide +kernel)) (fun _ => ?_)
    refine lv_aload_n hx hb dX10_set_26 rfl (lv_at hl 2 rfl) ?_
    refine k_get hC hK hP iX10 2 61 wf_X10_218 rfl (by decide) rfl rfl dX10_set_27 ?_
    refine lv_iload hx hb dX10_set_30 (lv_at hl 0 rfl) ?_
    refine k_zald (v := 0) hC hK hP 3 48 rfl (by decide +kernel) (by decide) (by decide +kernel) dX10_set_32 ?_
    refine lv_if_ne (tgt := 39) hx hb dX10_set_33 (by decide) (fun c_ => absurd (by decide +kernel) c_) (fun _ => ?_)
    refine lv_goto (tgt := 49) hx hb dX10_set_36 (by decide) ?_
    refine lv_iinc (v := 49) (lv' := [(4, .int 49), (3, .int (x0 + Int32.ofInt (-1))), (0, .ref a0), (1, .int x0), (2, .int x1)]) hx hb dX10_set_49 hl (k := 0) rfl (by decide +kernel) (by decide) rfl (fun ls hl => ?_)
    refine lv_goto (tgt := 19) hx hb dX10_set_52 (by decide) ?_
    refine lv_iload hx hb dX10_set_19 (lv_at hl 0 rfl) ?_
    refine lv_bipush (v := 64) hx hb dX10_set_21 (by decide) ?_
    refine lv_icmp_ge (tgt := 55) hx hb dX10_set_23 (by decide) (fun c_ => absurd c_ (by decide +kernel)) (fun _ => ?_)
    refine lv_aload_n hx hb dX10_set_26 rfl (lv_at hl 2 rfl) ?_
    refine k_get hC hK hP iX10 2 61 wf_X10_218 rfl (by decide) rfl rfl dX10_set_27 ?_
    refine lv_iload hx hb dX10_set_30 (lv_at hl 0 rfl) ?_
    refine k_zald (v := 0) hC hK hP 3 49 rfl (by decide +kernel) (by decide) (by decide +kernel) dX10_set_32 ?_
    refine lv_if_ne (tgt := 39) hx hb dX10_set_33 (by decide) (fun c_ => absurd (by decide +kernel) c_) (fun _ => ?_)
    refine lv_goto (tgt := 49) hx hb dX10_set_36 (by decide) ?_
    refine lv_iinc (v := 50) (lv' := [(4, .int 50), (3, .int (x0 + Int32.ofInt (-1))), (0, .ref a0), (1, .int x0), (2, .int x1)]) hx hb dX10_set_49 hl (k := 0) rfl (by decide +kernel) (by decide) rfl (fun ls hl => ?_)
    refine lv_goto (tgt := 19) hx hb dX10_set_52 (by decide) ?_
    refine lv_iload hx hb dX10_set_19 (lv_at hl 0 rfl) ?_
    refine lv_bipush (v := 64) hx hb dX10_set_21 (by decide) ?_
    refine lv_icmp_ge (tgt := 55) hx hb dX10_set_23 (by decide) (fun c_ => absurd c_ (by decide +kernel)) (fun _ => ?_)
    refine lv_aload_n hx hb dX10_set_26 rfl (lv_at hl 2 rfl) ?_
    refine k_get hC hK hP iX10 2 61 wf_X10_218 rfl (by decide) rfl rfl dX10_set_27 ?_
    refine lv_iload hx hb dX10_set_30 (lv_at hl 0 rfl) ?_
    refine k_zald (v := 0) hC hK hP 3 50 rfl (by decide +kernel) (by decide) (by decide +kernel) dX10_set_32 ?_
    refine lv_if_ne (tgt := 39) hx hb dX10_set_33 (by decide) (fun c_ => absurd (by decide +kernel) c_) (fun _ => ?_)
    refine lv_goto (tgt := 49) hx hb dX10_set_36 (by decide) ?_
    refine lv_iinc (v := 51) (lv' := [(4, .int 51), (3, .int (x0 + Int32.ofInt (-1))), (0, .ref a0), (1, .int x0), (2, .int x1)]) hx hb dX10_set_49 hl (k := 0) rfl (by decide +kernel) (by decide) rfl (fun ls hl => ?_)
    refine lv_goto (tgt := 19) hx hb dX10_set_52 (by decide) ?_
    refine lv_iload hx hb dX10_set_19 (lv_at hl 0 rfl) ?_
    refine lv_bipush (v := 64) hx hb dX10_set_21 (by decide) ?_
    refine lv_icmp_ge (tgt := 55) hx hb dX10_set_23 (by decide) (fun c_ => absurd c_ (by decide +kernel)) (fun _ => ?_)
    refine lv_aload_n hx hb dX10_set_26 rfl (lv_at hl 2 rfl) ?_
    refine k_get hC hK hP iX10 2 61 wf_X10_218 rfl (by decide) rfl rfl dX10_set_27 ?_
    refine lv_iload hx hb dX10_set_30 (lv_at hl 0 rfl) ?_
    refine k_zald (v := 0) hC hK hP 3 51 rfl (by decide +kernel) (by decide) (by decide +kernel) dX10_set_32 ?_
    refine lv_if_ne (tgt := 39) hx hb dX10_set_33 (by decide) (fun c_ => absurd (by decide +kernel) c_) (fun _ => ?_)
    refine lv_goto (tgt := 49) hx hb dX10_set_36 (by decide) ?_
    refine lv_iinc (v := 52) (lv' := [(4, .int 52), (3, .int (x0 + Int32.ofInt (-1))), (0, .ref a0), (1, .int x0), (2, .int x1)]) hx hb dX10_set_49 hl (k := 0) rfl (by decide +kernel) (by decide) rfl (fun ls hl => ?_)
    refine lv_goto (tgt := 19) hx hb dX10_set_52 (by decide) ?_
    refine lv_iload hx hb dX10_set_19 (lv_at hl 0 rfl) ?_
    refine lv_bipush (v := 64) hx hb dX10_set_21 (by decide) ?_
    refine lv_icmp_ge (tgt := 55) hx hb dX10_set_23 (by decide) (fun c_ => absurd c_ (by decide +kernel)) (fun _ => ?_)
    refine lv_aload_n hx hb dX10_set_26 rfl (lv_at hl 2 rfl) ?_
    refine k_get hC hK hP iX10 2 61 wf_X10_218 rfl (by decide) rfl rfl dX10_set_27 ?_
    refine lv_iload hx hb dX10_set_30 (lv_at hl 0 rfl) ?_
    refine k_zald (v := 0) hC hK hP 3 52 rfl (by decide +kernel) (by decide) (by decide +kernel) dX10_set_32 ?_
    refine lv_if_ne (tgt := 39) hx hb dX10_set_33 (by decide) (fun c_ => absurd (by decide +kernel) c_) (fun _ => ?_)
    refine lv_goto (tgt := 49) hx hb dX10_set_36 (by decide) ?_
    refine lv_iinc (v := 53) (lv' := [(4, .int 53), (3, .int (x0 + Int32.ofInt (-1))), (0, .ref a0), (1, .int x0), (2, .int x1)]) hx hb dX10_set_49 hl (k := 0) rfl (by decide +kernel) (by decide) rfl (fun ls hl => ?_)
    refine lv_goto (tgt := 19) hx hb dX10_set_52 (by decide) ?_
    refine lv_iload hx hb dX10_set_19 (lv_at hl 0 rfl) ?_
    refine lv_bipush (v := 64) hx hb dX10_set_21 (by decide) ?_
    refine lv_icmp_ge (tgt := 55) hx hb dX10_set_23 (by decide) (fun c_ => absurd c_ (by decide +kernel)) (fun _ => ?_)
    refine lv_aload_n hx hb dX10_set_26 rfl (lv_at hl 2 rfl) ?_
    refine k_get hC hK hP iX10 2 61 wf_X10_218 rfl (by decide) rfl rfl dX10_set_27 ?_
    refine lv_iload hx hb dX10_set_30 (lv_at hl 0 rfl) ?_
    refine k_zald (v := 0) hC hK hP 3 53 rfl (by decide +kernel) (by decide) (by decide +kernel) dX10_set_32 ?_
    refine lv_if_ne (tgt := 39) hx hb dX10_set_33 (by decide) (fun c_ => absurd (by decide +kernel) c_) (fun _ => ?_)
    refine lv_goto (tgt := 49) hx hb dX10_set_36 (by decide) ?_
    refine lv_iinc (v := 54) (lv' := [(4, .int 54), (3, .int (x0 + Int32.ofInt (-1))), (0, .ref a0), (1, .int x0), (2, .int x1)]) hx hb dX10_set_49 hl (k := 0) rfl (by decide +kernel) (by decide) rfl (fun ls hl => ?_)
    refine lv_goto (tgt := 19) hx hb dX10_set_52 (by decide) ?_
    refine lv_iload hx hb dX10_set_19 (lv_at hl 0 rfl) ?_
    refine lv_bipush (v := 64) hx hb dX10_set_21 (by decide) ?_
    refine lv_icmp_ge (tgt := 55) hx hb dX10_set_23 (by decide) (fun c_ => absurd c_ (by decide +kernel)) (fun _ => ?_)
    refine lv_aload_n hx hb dX10_set_26 rfl (lv_at hl 2 rfl) ?_
    refine k_get hC hK hP iX10 2 61 wf_X10_218 rfl (by decide) rfl rfl dX10_set_27 ?_
    refine lv_iload hx hb dX10_set_30 (lv_at hl 0 rfl) ?_
    refine k_zald (v := 0) hC hK hP 3 54 rfl (by decide +kernel) (by decide) (by decide +kernel) dX10_set_32 ?_
    refine lv_if_ne (tgt := 39) hx hb dX10_set_33 (by decide) (fun c_ => absurd (by decide +kernel) c_) (fun _ => ?_)
    refine lv_goto (tgt := 49) hx hb dX10_set_36 (by decide) ?_
    refine lv_iinc (v := 55) (lv' := [(4, .int 55), (3, .int (x0 + Int32.ofInt (-1))), (0, .ref a0), (1, .int x0), (2, .int x1)]) hx hb dX10_set_49 hl (k := 0) rfl (by decide +kernel) (by decide) rfl (fun ls hl => ?_)
    refine lv_goto (tgt := 19) hx hb dX10_set_52 (by decide) ?_
    refine lv_iload hx hb dX10_set_19 (lv_at hl 0 rfl) ?_
    refine lv_bipush (v := 64) hx hb dX10_set_21 (by decide) ?_
    refine lv_icmp_ge (tgt := 55) hx hb dX10_set_23 (by decide) (fun c_ => absurd c_ (by decide +kernel)) (fun _ => ?_)
    refine lv_aload_n hx hb dX10_set_26 rfl (lv_at hl 2 rfl) ?_
    refine k_get hC hK hP iX10 2 61 wf_X10_218 rfl (by decide) rfl rfl dX10_set_27 ?_
    refine lv_iload hx hb dX10_set_30 (lv_at hl 0 rfl) ?_
    refine k_zald (v := 0) hC hK hP 3 55 rfl (by decide +kernel) (by decide) (by decide +kernel) dX10_set_32 ?_
    refine lv_if_ne (tgt := 39) hx hb dX10_set_33 (by decide) (fun c_ => absurd (by decide +kernel) c_) (fun _ => ?_)
    refine lv_goto (tgt := 49) hx hb dX10_set_36 (by decide) ?_
    refine lv_iinc (v := 56) (lv' := [(4, .int 56), (3, .int (x0 + Int32.ofInt (-1))), (0, .ref a0), (1, .int x0), (2, .int x1)]) hx hb dX10_set_49 hl (k := 0) rfl (by decide +kernel) (by decide) rfl (fun ls hl => ?_)
    refine lv_goto (tgt := 19) hx hb dX10_set_52 (by decide) ?_
    refine lv_iload hx hb dX10_set_19 (lv_at hl 0 rfl) ?_
    refine lv_bipush (v := 64) hx hb dX10_set_21 (by decide) ?_
    refine lv_icmp_ge (tgt := 55) hx hb dX10_set_23 (by decide) (fun c_ => absurd c_ (by decide +kernel)) (fun _ => ?_)
    refine lv_aload_n hx hb dX10_set_26 rfl (lv_at hl 2 rfl) ?_
    refine k_get hC hK hP iX10 2 61 wf_X10_218 rfl (by decide) rfl rfl dX10_set_27 ?_
    refine lv_iload hx hb dX10_set_30 (lv_at hl 0 rfl) ?_
    refine k_zald (v := 0) hC hK hP 3 56 rfl (by decide +kernel) (by decide) (by decide +kernel) dX10_set_32 ?_
    refine lv_if_ne (tgt := 39) hx hb dX10_set_33 (by decide) (fun c_ => absurd (by decide +kernel) c_) (fun _ => ?_)
    refine lv_goto (tgt := 49) hx hb dX10_set_36 (by decide) ?_
    refine lv_iinc (v := 57) (lv' := [(4, .int 57), (3, .int (x0 + Int32.ofInt (-1))), (0, .ref a0), (1, .int x0), (2, .int x1)]) hx hb dX10_set_49 hl (k := 0) rfl (by decide +kernel) (by decide) rfl (fun ls hl => ?_)
    refine lv_goto (tgt := 19) hx hb dX10_set_52 (by decide) ?_
    refine lv_iload hx hb dX10_set_19 (lv_at hl 0 rfl) ?_
    refine lv_bipush (v := 64) hx hb dX10_set_21 (by decide) ?_
    refine lv_icmp_ge (tgt := 55) hx hb dX10_set_23 (by decide) (fun c_ => absurd c_ (by decide +kernel)) (fun _ => ?_)
    refine lv_aload_n hx hb dX10_set_26 rfl (lv_at hl 2 rfl) ?_
    refine k_get hC hK hP iX10 2 61 wf_X10_218 rfl (by decide) rfl rfl dX10_set_27 ?_
    refine lv_iload hx hb dX10_set_30 (lv_at hl 0 rfl) ?_
    refine k_zald (v := 0) hC hK hP 3 57 rfl (by decide +kernel) (by decide) (by decide +kernel) dX10_set_32 ?_
    refine lv_if_ne (tgt := 39) hx hb dX10_set_33 (by decide) (fun c_ => absurd (by decide +kernel) c_) (fun _ => ?_)
    refine lv_goto (tgt := 49) hx hb dX10_set_36 (by decide) ?_
    refine lv_iinc (v := 58) (lv' := [(4, .int 58), (3, .int (x0 + Int32.ofInt (-1))), (0, .ref a0), (1, .int x0), (2, .int x1)]) hx hb dX10_set_49 hl (k := 0) rfl (by decide +kernel) (by decide) rfl (fun ls hl => ?_)
    refine lv_goto (tgt := 19) hx hb dX10_set_52 (by decide) ?_
    refine lv_iload hx hb dX10_set_19 (lv_at hl 0 rfl) ?_
    refine lv_bipush (v := 64) hx hb dX10_set_21 (by decide) ?_
    refine lv_icmp_ge (tgt := 55) hx hb dX10_set_23 (by decide) (fun c_ => absurd c_ (by decide +kernel)) (fun _ => ?_)
    refine lv_aload_n hx hb dX10_set_26 rfl (lv_at hl 2 rfl) ?_
    refine k_get hC hK hP iX10 2 61 wf_X10_218 rfl (by decide) rfl rfl dX10_set_27 ?_
    refine lv_iload hx hb dX10_set_30 (lv_at hl 0 rfl) ?_
    refine k_zald (v := 0) hC hK hP 3 58 rfl (by decide +kernel) (by decide) (by decide +kernel) dX10_set_32 ?_
    refine lv_if_ne (tgt := 39) hx hb dX10_set_33 (by decide) (fun c_ => absurd (by decide +kernel) c_) (fun _ => ?_)
    refine lv_goto (tgt := 49) hx hb dX10_set_36 (by decide) ?_
    refine lv_iinc (v := 59) (lv' := [(4, .int 59), (3, .int (x0 + Int32.ofInt (-1))), (0, .ref a0), (1, .int x0), (2, .int x1)]) hx hb dX10_set_49 hl (k := 0) rfl (by decide +kernel) (by decide) rfl (fun ls hl => ?_)
    refine lv_goto (tgt := 19) hx hb dX10_set_52 (by decide) ?_
    refine lv_iload hx hb dX10_set_19 (lv_at hl 0 rfl) ?_
    refine lv_bipush (v := 64) hx hb dX10_set_21 (by decide) ?_
    refine lv_icmp_ge (tgt := 55) hx hb dX10_set_23 (by decide) (fun c_ => absurd c_ (by decide +kernel)) (fun _ => ?_)
    refine lv_aload_n hx hb dX10_set_26 rfl (lv_at hl 2 rfl) ?_
    refine k_get hC hK hP iX10 2 61 wf_X10_218 rfl (by decide) rfl rfl dX10_set_27 ?_
    refine lv_iload hx hb dX10_set_30 (lv_at hl 0 rfl) ?_
    refine k_zald (v := 0) hC hK hP 3 59 rfl (by decide +kernel) (by decide) (by decide +kernel) dX10_set_32 ?_
    refine lv_if_ne (tgt := 39) hx hb dX10_set_33 (by decide) (fun c_ => absurd (by decide +kernel) c_) (fun _ => ?_)
    refine lv_goto (tgt := 49) hx hb dX10_set_36 (by decide) ?_
    refine lv_iinc (v := 60) (lv' := [(4, .int 60), (3, .int (x0 + Int32.ofInt (-1))), (0, .ref a0), (1, .int x0), (2, .int x1)]) hx hb dX10_set_49 hl (k := 0) rfl (by decide +kernel) (by decide) rfl (fun ls hl => ?_)
    refine lv_goto (tgt := 19) hx hb dX10_set_52 (by decide) ?_
    refine lv_iload hx hb dX10_set_19 (lv_at hl 0 rfl) ?_
    refine lv_bipush (v := 64) hx hb dX10_set_21 (by decide) ?_
    refine lv_icmp_ge (tgt := 55) hx hb dX10_set_23 (by decide) (fun c_ => absurd c_ (by decide +kernel)) (fun _ => ?_)
    refine lv_aload_n hx hb dX10_set_26 rfl (lv_at hl 2 rfl) ?_
    refine k_get hC hK hP iX10 2 61 wf_X10_218 rfl (by decide) rfl rfl dX10_set_27 ?_
    refine lv_iload hx hb dX10_set_30 (lv_at hl 0 rfl) ?_
    refine k_zald (v := 0) hC hK hP 3 60 rfl (by decide +kernel) (by decide) (by decide +kernel) dX10_set_32 ?_
    refine lv_if_ne (tgt := 39) hx hb dX10_set_33 (by decide) (fun c_ => absurd (by decide +kernel) c_) (fun _ => ?_)
    refine lv_goto (tgt := 49) hx hb dX10_set_36 (by decide) ?_
    refine lv_iinc (v := 61) (lv' := [(4, .int 61), (3, .int (x0 + Int32.ofInt (-1))), (0, .ref a0), (1, .int x0), (2, .int x1)]) hx hb dX10_set_49 hl (k := 0) rfl (by decide +kernel) (by decide) rfl (fun ls hl => ?_)
    refine lv_goto (tgt := 19) hx hb dX10_set_52 (by decide) ?_
    refine lv_iload hx hb dX10_set_19 (lv_at hl 0 rfl) ?_
    refine lv_bipush (v := 64) hx hb dX10_set_21 (by decide) ?_
    refine lv_icmp_ge (tgt := 55) hx hb dX10_set_23 (by decide) (fun c_ => absurd c_ (by decide +kernel)) (fun _ => ?_)
    refine lv_aload_n hx hb dX10_set_26 rfl (lv_at hl 2 rfl) ?_
    refine k_get hC hK hP iX10 2 61 wf_X10_218 rfl (by decide) rfl rfl dX10_set_27 ?_
    refine lv_iload hx hb dX10_set_30 (lv_at hl 0 rfl) ?_
    refine k_zald (v := 0) hC hK hP 3 61 rfl (by decide +kernel) (by decide) (by decide +kernel) dX10_set_32 ?_
    refine lv_if_ne (tgt := 39) hx hb dX10_set_33 (by decide) (fun c_ => absurd (by decide +kernel) c_) (fun _ => ?_)
    refine lv_goto (tgt := 49) hx hb dX10_set_36 (by decide) ?_
    refine lv_iinc (v := 62) (lv' := [(4, .int 62), (3, .int (x0 + Int32.ofInt (-1))), (0, .ref a0), (1, .int x0), (2, .int x1)]) hx hb dX10_set_49 hl (k := 0) rfl (by decide +kernel) (by decide) rfl (fun ls hl => ?_)
    refine lv_goto (tgt := 19) hx hb dX10_set_52 (by decide) ?_
    refine lv_iload hx hb dX10_set_19 (lv_at hl 0 rfl) ?_
    refine lv_bipush (v := 64) hx hb dX10_set_21 (by decide) ?_
    refine lv_icmp_ge (tgt := 55) hx hb dX10_set_23 (by decide) (fun c_ => absurd c_ (by decide +kernel)) (fun _ => ?_)
    refine lv_aload_n hx hb dX10_set_26 rfl (lv_at hl 2 rfl) ?_
    refine k_get hC hK hP iX10 2 61 wf_X10_218 rfl (by decide) rfl rfl dX10_set_27 ?_
    refine lv_iload hx hb dX10_set_30 (lv_at hl 0 rfl) ?_
    refine k_zald (v := 0) hC hK hP 3 62 rfl (by decide +kernel) (by decide) (by decide +kernel) dX10_set_32 ?_
    refine lv_if_ne (tgt := 39) hx hb dX10_set_33 (by decide) (fun c_ => absurd (by decide +kernel) c_) (fun _ => ?_)
    refine lv_goto (tgt := 49) hx hb dX10_set_36 (by decide) ?_
    refine lv_iinc (v := 63) (lv' := [(4, .int 63), (3, .int (x0 + Int32.ofInt (-1))), (0, .ref a0), (1, .int x0), (2, .int x1)]) hx hb dX10_set_49 hl (k := 0) rfl (by decide +kernel) (by decide) rfl (fun ls hl => ?_)
    refine lv_goto (tgt := 19) hx hb dX10_set_52 (by decide) ?_
    refine lv_iload hx hb dX10_set_19 (lv_at hl 0 rfl) ?_
    refine lv_bipush (v := 64) hx hb dX10_set_21 (by decide) ?_
    refine lv_icmp_ge (tgt := 55) hx hb dX10_set_23 (by decide) (fun c_ => absurd c_ (by decide +kernel)) (fun _ => ?_)
    refine lv_aload_n hx hb dX10_set_26 rfl (lv_at hl 2 rfl) ?_
    refine k_get hC hK hP iX10 2 61 wf_X10_218 rfl (by decide) rfl rfl dX10_set_27 ?_
    refine lv_iload hx hb dX10_set_30 (lv_at hl 0 rfl) ?_
    refine k_zald (v := 0) hC hK hP 3 63 rfl (by decide +kernel) (by decide) (by decide +kernel) dX10_set_32 ?_
    refine lv_if_ne (tgt := 39) hx hb dX10_set_33 (by decide) (fun c_ => absurd (by decide +kernel) c_) (fun _ => ?_)
    refine lv_goto (tgt := 49) hx hb dX10_set_36 (by decide) ?_
    refine lv_iinc (v := 64) (lv' := [(4, .int 64), (3, .int (x0 + Int32.ofInt (-1))), (0, .ref a0), (1, .int x0), (2, .int x1)]) hx hb dX10_set_49 hl (k := 0) rfl (by decide +kernel) (by decide) rfl (fun ls hl => ?_)
    refine lv_goto (tgt := 19) hx hb dX10_set_52 (by decide) ?_
    refine lv_iload hx hb dX10_set_19 (lv_at hl 0 rfl) ?_
    refine lv_bipush (v := 64) hx hb dX10_set_21 (by decide) ?_
    refine lv_icmp_ge (tgt := 55) hx hb dX10_set_23 (by decide) (fun _ => ?_) (fun c_ => absurd (by decide +kernel) c_)
    refine lv_iconst (v := (-1)) hx hb dX10_set_55 (by decide) ?_
    exact k_iret hC hr hlk hK hP hD hS () [] rfl (by decide) (by first | decide | (unfold sp_end; rw [if_neg (by omega)]) | (unfold sp_end; rw [if_pos (by omega)])) (Nat.le_of_ble_eq_true rfl) (Nat.le_of_ble_eq_true rfl) dX10_set_56
  · have d_3 : x0.toInt = 0 := (fa_eq _ _).mp c_3
    obtain rfl : x0 = 0 := (fa_eq _ _).mpr (show x0.toInt = 0 by omega)
    refine lv_iload hx hb dX10_set_43 (lv_at hl 0 rfl) ?_
    exact k_iret hC hr hlk hK hP hD hS () [] rfl (by decide) (by first | decide | (unfold sp_end; rw [if_neg (by omega)]) | (unfold sp_end; rw [if_pos (by omega)])) (Nat.le_of_ble_eq_true rfl) (Nat.le_of_ble_eq_true rfl) dX10_set_45

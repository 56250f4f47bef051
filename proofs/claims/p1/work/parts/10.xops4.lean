theorem dX9_next_0 : decode cX9_next 0 = .ok (.iload_n 1, 1) := by decide +kernel
theorem dX9_next_1 : decode cX9_next 1 = .ok (.ifCond .lt 19, 3) := by decide +kernel
theorem dX9_next_20 : decode cX9_next 20 = .ok (.iconst (-1), 1) := by decide +kernel
theorem dX9_next_21 : decode cX9_next 21 = .ok (.ireturn, 1) := by decide +kernel
theorem dX9_next_4 : decode cX9_next 4 = .ok (.iload_n 1, 1) := by decide +kernel
theorem dX9_next_5 : decode cX9_next 5 = .ok (.iconst 1, 1) := by decide +kernel
theorem dX9_next_6 : decode cX9_next 6 = .ok (.if_icmp .gt 14, 3) := by decide +kernel
theorem dX9_next_9 : decode cX9_next 9 = .ok (.aload_n 0, 1) := by decide +kernel
theorem dX9_next_10 : decode cX9_next 10 = .ok (.getfield 10, 3) := by decide +kernel
theorem dX9_next_13 : decode cX9_next 13 = .ok (.getfield 171, 3) := by decide +kernel
theorem dX9_next_16 : decode cX9_next 16 = .ok (.iconst 2, 1) := by decide +kernel
theorem dX9_next_17 : decode cX9_next 17 = .ok (.if_icmp .ge 5, 3) := by decide +kernel
set_option maxHeartbeats 4000000 in
set_option maxRecDepth 100000 in
theorem c100_X9_next (l : Launch) (G : va_G) (cI cJ cB cZ : ClassId) (a0 a1 a2 a3 a4 a5 a6 a7 a8 a9 a10 a11 a12 a13 a14 a15 a16 a17 a18 : Nat) (x0 : Int32) (x1 : Int32) : Con l G (TY cI cJ cB cZ) yX9_next cX9_next 4 (some .int) ({ frames := 0, cells := 0, slots := 0, locals := 0 } : Room) [.ref a0, .int x0, .int x1] [(a0, .inr (9, [.ref a1, .ref a2, .ref a3, .int 0, .int 0, .ref a4, .ref a5, .ref a6, .ref a7])), (a1, .inr (7, [.int 100, .int 100, .int 0, .ref a8, .ref a9, .int 0, .ref a10, .ref a11, .ref a12, .ref a13, .ref a14, .ref a15, .ref a16, .ref a17, .ref a18]))] (QI G (TY cI cJ cB cZ) (fun (r : Int32) (u : Unit) => r = (-1)) (fun u : Unit => [])) := by
  refine k_met (by decide) (Nat.le_of_ble_eq_true rfl) ?_
  intro p e s m below meth c A ls hC hr hlk hnm hN hK hA hP hD hS hl
  have hl : lv_has ls 4 [(0, .ref a0), (1, .int x0), (2, .int x1)] := hl
  obtain ⟨hx, hb, hml, hown, hts⟩ := id hC
  refine lv_iload_n hx hb dX9_next_0 rfl (lv_at hl 1 rfl) ?_
  refine lv_if_lt (tgt := 20) hx hb dX9_next_1 (by decide) (fun c_1 => ?_) (fun c_1 => ?_)
  · have d_1 : x0.toInt < 0 := (fa_lt _ _).mp c_1
    refine lv_iconst (v := (-1)) hx hb dX9_next_20 (by decide) ?_
    exact k_iret hC hr hlk hK hP hD hS () [] rfl (by decide) rfl (Nat.le_of_ble_eq_true rfl) (Nat.le_of_ble_eq_true rfl) dX9_next_21
  · have d_1 : 0 ≤ x0.toInt := fa_nlt c_1
    refine lv_iload_n hx hb dX9_next_4 rfl (lv_at hl 1 rfl) ?_
    refine lv_iconst (v := 1) hx hb dX9_next_5 (by decide) ?_
    refine lv_icmp_gt (tgt := 20) hx hb dX9_next_6 (by decide) (fun c_2 => ?_) (fun c_2 => ?_)
    · have d_2 : 1 < x0.toInt := (fa_lt _ _).mp c_2
      refine lv_iconst (v := (-1)) hx hb dX9_next_20 (by decide) ?_
      exact k_iret hC hr hlk hK hP hD hS () [] rfl (by decide) rfl (Nat.le_of_ble_eq_true rfl) (Nat.le_of_ble_eq_true rfl) dX9_next_21
    · have d_2 : x0.toInt ≤ 1 := fa_nlt c_2
      have e_3 : x0.toInt = 0 ∨ x0.toInt = 1 := by omega
      obtain rfl | rfl : x0 = 0 ∨ x0 = 1 := by simp only [fa_eq]; exact e_3
      · skip
        refine lv_aload_n hx hb dX9_next_9 rfl (lv_at hl 0 rfl) ?_
        refine k_get hC hK hP iX9 0 0 wf_X9_10 rfl (by decide) rfl rfl dX9_next_10 ?_
        refine k_getN hC hN hK hP iX7 1 5 wf_X9_171 rfl (by decide) rfl rfl dX9_next_13 ?_
        refine lv_iconst (v := 2) hx hb dX9_next_16 (by decide) ?_
        refine lv_icmp_ge (tgt := 22) hx hb dX9_next_17 (by decide) (fun c_ => absurd c_ (by decide +kernel)) (fun _ => ?_)
        refine lv_iconst (v := (-1)) hx hb dX9_next_20 (by decide) ?_
        exact k_iret hC hr hlk hK hP hD hS () [] rfl (by decide) rfl (Nat.le_of_ble_eq_true rfl) (Nat.le_of_ble_eq_true rfl) dX9_next_21
      · skip
        refine lv_aload_n hx hb dX9_next_9 rfl (lv_at hl 0 rfl) ?_
        refine k_get hC hK hP iX9 0 0 wf_X9_10 rfl (by decide) rfl rfl dX9_next_10 ?_
        refine k_getN hC hN hK hP iX7 1 5 wf_X9_171 rfl (by decide) rfl rfl dX9_next_13 ?_
        refine lv_iconst (v := 2) hx hb dX9_next_16 (by decide) ?_
        refine lv_icmp_ge (tgt := 22) hx hb dX9_next_17 (by decide) (fun c_ => absurd c_ (by decide +kernel)) (fun _ => ?_)
        refine lv_iconst (v := (-1)) hx hb dX9_next_20 (by decide) ?_
        exact k_iret hC hr hlk hK hP hD hS () [] rfl (by decide) rfl (Nat.le_of_ble_eq_true rfl) (Nat.le_of_ble_eq_true rfl) dX9_next_21
theorem dX9_parts_0 : decode cX9_parts 0 = .ok (.aload_n 0, 1) := by decide +kernel
theorem dX9_parts_1 : decode cX9_parts 1 = .ok (.getfield 54, 3) := by decide +kernel
theorem dX9_parts_4 : decode cX9_parts 4 = .ok (.iload_n 1, 1) := by decide +kernel
theorem dX9_parts_5 : decode cX9_parts 5 = .ok (.aload_n 0, 1) := by decide +kernel
theorem dX9_parts_6 : decode cX9_parts 6 = .ok (.getfield 10, 3) := by decide +kernel
theorem dX9_parts_9 : decode cX9_parts 9 = .ok (.getfield 171, 3) := by decide +kernel
theorem dX9_parts_12 : decode cX9_parts 12 = .ok (.invokevirtual 184, 3) := by decide +kernel
set_option maxRecDepth 100000 in
theorem wm_X9_184 : Cond.methodLink RX9 184 yX6_canBe ∈ gw := gm (List.mem_of_getElem? (i := 1075) (by decide +kernel)) rfl
set_option maxRecDepth 100000 in
theorem mi_X6_canBe : MI yX6_canBe cX6_canBe 3 (some .boolean) 2 := ⟨gm (List.mem_of_getElem? (i := 1044) rfl) rfl, gm (List.mem_of_getElem? (i := 122) (by decide +kernel)) rfl, by decide, by decide, by decide +kernel⟩
set_option maxRecDepth 100000 in
theorem in_X6_canBe : Cond.instanceMethod yX6_canBe ∈ gw := gm (List.mem_of_getElem? (i := 1042) (by decide +kernel)) rfl
set_option maxRecDepth 100000 in
theorem se_X6_canBe : Cond.selects yX6_canBe.cls yX6_canBe yX6_canBe ∈ gw := gm (List.mem_of_getElem? (i := 1043) (by decide +kernel)) rfl
theorem dX9_parts_15 : decode cX9_parts 15 = .ok (.ifCond .eq 12, 3) := by decide +kernel
theorem dX9_parts_27 : decode cX9_parts 27 = .ok (.iconst (-1), 1) := by decide +kernel
theorem dX9_parts_28 : decode cX9_parts 28 = .ok (.ireturn, 1) := by decide +kernel
set_option maxHeartbeats 4000000 in
set_option maxRecDepth 100000 in
theorem c101_X9_parts (l : Launch) (G : va_G) (cI cJ cB cZ : ClassId) (a0 a1 a2 a3 a4 a5 a6 a7 a8 a9 a10 a11 a12 a13 a14 a15 a16 a17 a18 a19 a20 a21 a22 a23 a24 a25 a26 a27 a28 : Nat) (x0 : Int32) (x1 : Int32) (x2 : Int32) (f_n437 : Nat → Int32) (f_n438 : Nat → Int32) (hk_n437 : okLR f_n437) (hk_n438 : okLR f_n438) : Con l G (TY cI cJ cB cZ) yX9_parts cX9_parts 7 (some .int) ({ frames := 2, cells := 0, slots := 0, locals := 43 } : Room) [.ref a0, .int x0, .int x1, .int x2] [(a0, .inr (9, [.ref a1, .ref a2, .ref a3, .int 0, .int 0, .ref a4, .ref a5, .ref a6, .ref a7])), (a1, .inr (7, [.int 100, .int 100, .int 0, .ref a8, .ref a9, .int 0, .ref a10, .ref a11, .ref a12, .ref a13, .ref a14, .ref a15, .ref a16, .ref a17, .ref a18])), (a6, .inr (6, [.ref a19, .ref a20, .ref a21, .int 0, .ref a22, .ref a23, .int (-1), .int (-1), .int (-1), .ref a24, .int 0, .ref a25, .ref a26, .ref a27, .ref a28, .int 0, .int (-1), .int (-1), .int (-1), .int (-1)])), (a19, .inl (cI, 729, .inl f_n437)), (a20, .inl (cI, 729, .inl f_n438))] (QI G (TY cI cJ cB cZ) (fun (r : Int32) (u : Unit) => r = (-1)) (fun u : Unit => [])) := by
  refine k_met (by decide) (Nat.le_of_ble_eq_true rfl) ?_
  intro p e s m below meth c A ls hC hr hlk hnm hN hK hA hP hD hS hl
  have hl : lv_has ls 7 [(0, .ref a0), (1, .int x0), (2, .int x1), (3, .int x2)] := hl
  obtain ⟨hx, hb, hml, hown, hts⟩ := id hC
  refine lv_aload_n hx hb dX9_parts_0 rfl (lv_at hl 0 rfl) ?_
  refine k_get hC hK hP iX9 0 7 wf_X9_54 rfl (by decide) rfl rfl dX9_parts_1 ?_
  refine lv_iload_n hx hb dX9_parts_4 rfl (lv_at hl 1 rfl) ?_
  refine lv_aload_n hx hb dX9_parts_5 rfl (lv_at hl 0 rfl) ?_
  refine k_get hC hK hP iX9 0 0 wf_X9_10 rfl (by decide) rfl rfl dX9_parts_6 ?_
  refine k_getN hC hN hK hP iX7 1 5 wf_X9_171 rfl (by decide) rfl rfl dX9_parts_9 ?_
  refine k_ci (wr := [(a0, .inr (9, [.ref a1, .ref a2, .ref a3, .int 0, .int 0, .ref a4, .ref a5, .ref a6, .ref a7])), (a1, .inr (7, [.int 100, .int 100, .int 0, .ref a8, .ref a9, .int 0, .ref a10, .ref a11, .ref a12, .ref a13, .ref a14, .ref a15, .ref a16, .ref a17, .ref a18]))]) (k_rV hC hN hK hP hD (cH_X6_canBe l G cI cJ cB cZ a6 (fun k => [a19, a20, a21, a22, a23, a24, a25, a26, a27, a28].getD k 0) x0 f_n437 f_n438 hk_n437 hk_n438) [2, 3, 4] rfl (by decide) mi_X6_canBe in_X6_canBe se_X6_canBe wm_X9_184 6 2 rfl rfl rfl hl.1 rfl rfl (Nat.le_of_ble_eq_true rfl) ⟨(Nat.le_of_ble_eq_true rfl), (Nat.le_of_ble_eq_true rfl)⟩ dX9_parts_12 ⟨(Nat.le_of_ble_eq_true rfl), (Nat.le_of_ble_eq_true rfl)⟩) hP hD hS hA [2, 3, 4] [0, 1] rfl rfl (by decide) (by decide) (fun r1 u1 H locs hp hP hD hS => ?_)
  have hP : va_P G cl [(a0, .inr (9, [.ref a1, .ref a2, .ref a3, .int 0, .int 0, .ref a4, .ref a5, .ref a6, .ref a7])), (a1, .inr (7, [.int 100, .int 100, .int 0, .ref a8, .ref a9, .int 0, .ref a10, .ref a11, .ref a12, .ref a13, .ref a14, .ref a15, .ref a16, .ref a17, .ref a18])), (a6, .inr (6, [.ref a19, .ref a20, .ref a21, .int 0, .ref a22, .ref a23, .int (-1), .int (-1), .int (-1), .ref a24, .int 0, .ref a25, .ref a26, .ref a27, .ref a28, .int 0, .int (-1), .int (-1), .int (-1), .int (-1)])), (a19, .inl (cI, 729, .inl f_n437)), (a20, .inl (cI, 729, .inl f_n438))] H := hP
  have hD : va_D A [(a0, .inr (9, [.ref a1, .ref a2, .ref a3, .int 0, .int 0, .ref a4, .ref a5, .ref a6, .ref a7])), (a1, .inr (7, [.int 100, .int 100, .int 0, .ref a8, .ref a9, .int 0, .ref a10, .ref a11, .ref a12, .ref a13, .ref a14, .ref a15, .ref a16, .ref a17, .ref a18])), (a6, .inr (6, [.ref a19, .ref a20, .ref a21, .int 0, .ref a22, .ref a23, .int (-1), .int (-1), .int (-1), .ref a24, .int 0, .ref a25, .ref a26, .ref a27, .ref a28, .int 0, .int (-1), .int (-1), .int (-1), .int (-1)])), (a19, .inl (cI, 729, .inl f_n437)), (a20, .inl (cI, 729, .inl f_n438))] := hD
  subst hp
  refine lv_if_eq (tgt := 27) hx hb dX9_parts_15 (by decide) (fun _ => ?_) (fun c_ => absurd (by decide +kernel) c_)
  refine lv_iconst (v := (-1)) hx hb dX9_parts_27 (by decide) ?_
  exact k_iret hC hr hlk hK hP hD hS () [] rfl (by decide) rfl (Nat.le_of_ble_eq_true rfl) (Nat.le_of_ble_eq_true rfl) dX9_parts_28
theorem dX9_clear_0 : decode cX9_clear 0 = .ok (.aload_n 0, 1) := by decide +kernel
theorem dX9_clear_1 : decode cX9_clear 1 = .ok (.iload_n 1, 1) := by decide +kernel
theorem dX9_clear_2 : decode cX9_clear 2 = .ok (.invokevirtual 150, 3) := by decide +kernel
theorem dX9_clear_5 : decode cX9_clear 5 = .ok (.ifCond .eq 12, 3) := by decide +kernel
theorem dX9_clear_17 : decode cX9_clear 17 = .ok (.iconst (-1), 1) := by decide +kernel
theorem dX9_clear_18 : decode cX9_clear 18 = .ok (.ireturn, 1) := by decide +kernel
set_option maxHeartbeats 4000000 in
set_option maxRecDepth 100000 in
theorem c102_X9_clear (l : Launch) (G : va_G) (cI cJ cB cZ : ClassId) (a0 a1 a2 a3 a4 a5 a6 a7 a8 a9 a10 a11 a12 a13 a14 a15 a16 a17 a18 : Nat) (x0 : Int32) (x1 : Int32) (x2 : Int32) : Con l G (TY cI cJ cB cZ) yX9_clear cX9_clear 5 (some .int) ({ frames := 1, cells := 0, slots := 0, locals := 21 } : Room) [.ref a0, .int x0, .int x1, .int x2] [(a0, .inr (9, [.ref a1, .ref a2, .ref a3, .int 0, .int 0, .ref a4, .ref a5, .ref a6, .ref a7])), (a1, .inr (7, [.int 100, .int 100, .int 0, .ref a8, .ref a9, .int 0, .ref a10, .ref a11, .ref a12, .ref a13, .ref a14, .ref a15, .ref a16, .ref a17, .ref a18]))] (QI G (TY cI cJ cB cZ) (fun (r : Int32) (u : Unit) => r = (-1)) (fun u : Unit => [])) := by
  refine k_met (by decide) (Nat.le_of_ble_eq_true rfl) ?_
  intro p e s m below meth c A ls hC hr hlk hnm hN hK hA hP hD hS hl
  have hl : lv_has ls 5 [(0, .ref a0), (1, .int x0), (2, .int x1), (3, .int x2)] := hl
  obtain ⟨hx, hb, hml, hown, hts⟩ := id hC
  refine lv_aload_n hx hb dX9_clear_0 rfl (lv_at hl 0 rfl) ?_
  refine lv_iload_n hx hb dX9_clear_1 rfl (lv_at hl 1 rfl) ?_
  refine k_ci (wr := []) (k_rV hC hN hK hP hD (c87_X9_isStone l G cI cJ cB cZ a0 a1 a2 a3 a4 a5 a6 a7 a8 a9 a10 a11 a12 a13 a14 a15 a16 a17 a18 x0) [0, 1] rfl (by decide) mi_X9_isStone in_X9_isStone se_X9_isStone wm_X9_150 9 0 rfl rfl rfl hl.1 rfl rfl (Nat.le_of_ble_eq_true rfl) ⟨(Nat.le_of_ble_eq_true rfl), (Nat.le_of_ble_eq_true rfl)⟩ dX9_clear_2 ⟨(Nat.le_of_ble_eq_true rfl), (Nat.le_of_ble_eq_true rfl)⟩) hP hD hS hA [0, 1] [] rfl rfl (by decide) (by decide) (fun r1 u1 H locs hp hP hD hS => ?_)
  have hP : va_P G cl [(a0, .inr (9, [.ref a1, .ref a2, .ref a3, .int 0, .int 0, .ref a4, .ref a5, .ref a6, .ref a7])), (a1, .inr (7, [.int 100, .int 100, .int 0, .ref a8, .ref a9, .int 0, .ref a10, .ref a11, .ref a12, .ref a13, .ref a14, .ref a15, .ref a16, .ref a17, .ref a18]))] H := hP
  have hD : va_D A [(a0, .inr (9, [.ref a1, .ref a2, .ref a3, .int 0, .int 0, .ref a4, .ref a5, .ref a6, .ref a7])), (a1, .inr (7, [.int 100, .int 100, .int 0, .ref a8, .ref a9, .int 0, .ref a10, .ref a11, .ref a12, .ref a13, .ref a14, .ref a15, .ref a16, .ref a17, .ref a18]))] := hD
  subst hp
  refine lv_if_eq (tgt := 17) hx hb dX9_clear_5 (by decide) (fun _ => ?_) (fun c_ => absurd (by decide +kernel) c_)
  refine lv_iconst (v := (-1)) hx hb dX9_clear_17 (by decide) ?_
  exact k_iret hC hr hlk hK hP hD hS () [] rfl (by decide) rfl (Nat.le_of_ble_eq_true rfl) (Nat.le_of_ble_eq_true rfl) dX9_clear_18
theorem dX9_arm_0 : decode cX9_arm 0 = .ok (.aload_n 0, 1) := by decide +kernel
theorem dX9_arm_1 : decode cX9_arm 1 = .ok (.iload_n 1, 1) := by decide +kernel
theorem dX9_arm_2 : decode cX9_arm 2 = .ok (.invokevirtual 125, 3) := by decide +kernel
theorem dX9_arm_5 : decode cX9_arm 5 = .ok (.istore_n 2, 1) := by decide +kernel
theorem dX9_arm_6 : decode cX9_arm 6 = .ok (.iload_n 2, 1) := by decide +kernel
theorem dX9_arm_7 : decode cX9_arm 7 = .ok (.ifCond .gt 8, 3) := by decide +kernel
theorem dX9_arm_15 : decode cX9_arm 15 = .ok (.aload_n 0, 1) := by decide +kernel
theorem dX9_arm_16 : decode cX9_arm 16 = .ok (.getfield 10, 3) := by decide +kernel
theorem dX9_arm_19 : decode cX9_arm 19 = .ok (.aload_n 0, 1) := by decide +kernel
theorem dX9_arm_20 : decode cX9_arm 20 = .ok (.getfield 50, 3) := by decide +kernel
theorem dX9_arm_23 : decode cX9_arm 23 = .ok (.iconst 0, 1) := by decide +kernel
theorem dX9_arm_24 : decode cX9_arm 24 = .ok (.invokevirtual 132, 3) := by decide +kernel
theorem dX9_arm_27 : decode cX9_arm 27 = .ok (.invokevirtual 207, 3) := by decide +kernel
set_option maxRecDepth 100000 in
theorem wm_X9_207 : Cond.methodLink RX9 207 yX7_armOf ∈ gw := gm (List.mem_of_getElem? (i := 1143) (by decide +kernel)) rfl
theorem dX9_arm_30 : decode cX9_arm 30 = .ok (.istore_n 3, 1) := by decide +kernel
theorem dX9_arm_31 : decode cX9_arm 31 = .ok (.iconst 1, 1) := by decide +kernel
theorem dX9_arm_32 : decode cX9_arm 32 = .ok (.istore 4, 2) := by decide +kernel
theorem dX9_arm_34 : decode cX9_arm 34 = .ok (.iload 4, 2) := by decide +kernel
theorem dX9_arm_36 : decode cX9_arm 36 = .ok (.iload_n 2, 1) := by decide +kernel
theorem dX9_arm_37 : decode cX9_arm 37 = .ok (.if_icmp .ge 31, 3) := by decide +kernel
theorem dX9_arm_68 : decode cX9_arm 68 = .ok (.iconst 1, 1) := by decide +kernel
theorem dX9_arm_69 : decode cX9_arm 69 = .ok (.ireturn, 1) := by decide +kernel
set_option maxHeartbeats 4000000 in
set_option maxRecDepth 100000 in
theorem c103_X9_arm (l : Launch) (G : va_G) (cI cJ cB cZ : ClassId) (a0 a1 a2 a3 a4 a5 a6 a7 a8 a9 a10 a11 a12 a13 a14 a15 a16 a17 a18 a19 a20 a21 a22 a23 a24 a25 a26 a27 a28 a29 a30 a31 a32 a33 a34 a35 a36 a37 a38 a39 a40 a41 a42 a43 a44 a45 a46 : Nat) (x0 : Int32) : Con l G (TY cI cJ cB cZ) yX9_arm cX9_arm 5 (some .int) ({ frames := 4, cells := 0, slots := 0, locals := 94 } : Room) [.ref a0, .int x0] [(a0, .inr (9, [.ref a1, .ref a2, .ref a3, .int 0, .int 0, .ref a4, .ref a5, .ref a6, .ref a7])), (a1, .inr (7, [.int 100, .int 100, .int 0, .ref a8, .ref a9, .int 0, .ref a10, .ref a11, .ref a12, .ref a13, .ref a14, .ref a15, .ref a16, .ref a17, .ref a18])), (a9, .inl (cI, 2, .inl (upd (upd (fun _ => 0) 0 16) 1 16))), (a8, .inl (cI, 2, .inl (upd (upd (fun _ => 0) 0 16) 1 16))), (a17, .inr (8, [.ref a19, .ref a20, .ref a21, .ref a22, .ref a23, .ref a24, .ref a25, .int 0])), (a3, .inr (8, [.ref a26, .ref a27, .ref a28, .ref a29, .ref a30, .ref a31, .ref a32, .int 0])), (a5, .inr (0, [.ref a33, .int 0, .int 0, .long 0, .int 0, .int 0, .long 0])), (a4, .inr (4, [.ref a34, .ref a5, .ref a35, .ref a36, .ref a37, .ref a38, .ref a39, .int 100, .int 0, .int 0, .int (-1)])), (a35, .inr (8, [.ref a40, .ref a41, .ref a42, .ref a43, .ref a44, .ref a45, .ref a46, .int 0])), (a36, .inl (cI, 7, .inl (fun _ => 0))), (a33, .inl (cJ, 256, .inr (.inl (fun _ => 0))))] (QI G (TY cI cJ cB cZ) (fun (r : Int32) (u : Unit) => r = 1) (fun u : Unit => [])) := by
  refine k_met (by decide) (Nat.le_of_ble_eq_true rfl) ?_
  intro p e s m below meth c A ls hC hr hlk hnm hN hK hA hP hD hS hl
  have hl : lv_has ls 5 [(0, .ref a0), (1, .int x0)] := hl
  obtain ⟨hx, hb, hml, hown, hts⟩ := id hC
  refine lv_aload_n hx hb dX9_arm_0 rfl (lv_at hl 0 rfl) ?_
  refine lv_iload_n hx hb dX9_arm_1 rfl (lv_at hl 1 rfl) ?_
  refine k_ci (wr := []) (k_rV hC hN hK hP hD (c65_X9_known l G cI cJ cB cZ a0 a1 a2 a3 a4 a5 a6 a7 a8 a9 a10 a11 a12 a13 a14 a15 a16 a17 a18 a19 a20 a21 a22 a23 a24 a25 a26 a27 a28 a29 a30 a31 a32 a33 a34 a35 a36 a37 a38 a39 a40 a41 a42 a43 a44 a45 a46 x0) [0, 1, 2, 3, 4, 5, 6, 7, 8, 9, 10] rfl (by decide) mi_X9_known in_X9_known se_X9_known wm_X9_125 9 0 rfl rfl rfl hl.1 rfl rfl (Nat.le_of_ble_eq_true rfl) ⟨(Nat.le_of_ble_eq_true rfl), (Nat.le_of_ble_eq_true rfl)⟩ dX9_arm_2 ⟨(Nat.le_of_ble_eq_true rfl), (Nat.le_of_ble_eq_true rfl)⟩) hP hD hS hA [0, 1, 2, 3, 4, 5, 6, 7, 8, 9, 10] [] rfl rfl (by decide) (by decide) (fun r1 u1 H locs hp hP hD hS => ?_)
  have hP : va_P G cl [(a0, .inr (9, [.ref a1, .ref a2, .ref a3, .int 0, .int 0, .ref a4, .ref a5, .ref a6, .ref a7])), (a1, .inr (7, [.int 100, .int 100, .int 0, .ref a8, .ref a9, .int 0, .ref a10, .ref a11, .ref a12, .ref a13, .ref a14, .ref a15, .ref a16, .ref a17, .ref a18])), (a9, .inl (cI, 2, .inl (upd (upd (fun _ => 0) 0 16) 1 16))), (a8, .inl (cI, 2, .inl (upd (upd (fun _ => 0) 0 16) 1 16))), (a17, .inr (8, [.ref a19, .ref a20, .ref a21, .ref a22, .ref a23, .ref a24, .ref a25, .int 0])), (a3, .inr (8, [.ref a26, .ref a27, .ref a28, .ref a29, .ref a30, .ref a31, .ref a32, .int 0])), (a5, .inr (0, [.ref a33, .int 1, .int 1, .long 0, .int 1, .int 0, .long 0])), (a4, .inr (4, [.ref a1, .ref a5, .ref a35, .ref a36, .ref a37, .ref a38, .ref a39, .int 100, .int 0, .int 0, .int (-1)])), (a35, .inr (8, [.ref a40, .ref a41, .ref a42, .ref a43, .ref a44, .ref a45, .ref a46, .int 0])), (a36, .inl (cI, 7, .inl (fun _ => 0))), (a33, .inl (cJ, 256, .inr (.inl (vp_updL (fun _ => 0) 0 0))))] H := hP
  have hD : va_D A [(a0, .inr (9, [.ref a1, .ref a2, .ref a3, .int 0, .int 0, .ref a4, .ref a5, .ref a6, .ref a7])), (a1, .inr (7, [.int 100, .int 100, .int 0, .ref a8, .ref a9, .int 0, .ref a10, .ref a11, .ref a12, .ref a13, .ref a14, .ref a15, .ref a16, .ref a17, .ref a18])), (a9, .inl (cI, 2, .inl (upd (upd (fun _ => 0) 0 16) 1 16))), (a8, .inl (cI, 2, .inl (upd (upd (fun _ => 0) 0 16) 1 16))), (a17, .inr (8, [.ref a19, .ref a20, .ref a21, .ref a22, .ref a23, .ref a24, .ref a25, .int 0])), (a3, .inr (8, [.ref a26, .ref a27, .ref a28, .ref a29, .ref a30, .ref a31, .ref a32, .int 0])), (a5, .inr (0, [.ref a33, .int 1, .int 1, .long 0, .int 1, .int 0, .long 0])), (a4, .inr (4, [.ref a1, .ref a5, .ref a35, .ref a36, .ref a37, .ref a38, .ref a39, .int 100, .int 0, .int 0, .int (-1)])), (a35, .inr (8, [.ref a40, .ref a41, .ref a42, .ref a43, .ref a44, .ref a45, .ref a46, .int 0])), (a36, .inl (cI, 7, .inl (fun _ => 0))), (a33, .inl (cJ, 256, .inr (.inl (vp_updL (fun _ => 0) 0 0))))] := hD
  subst hp
  refine lv_istore_n (lv' := [(2, .int 1), (0, .ref a0), (1, .int x0)]) hx hb dX9_arm_5 rfl hl (by decide) rfl (fun ls hl => ?_)
  refine lv_iload_n hx hb dX9_arm_6 rfl (lv_at hl 0 rfl) ?_
  refine lv_if_gt (tgt := 15) hx hb dX9_arm_7 (by decide) (fun _ => ?_) (fun c_ => absurd (by decide +kernel) c_)
  refine lv_aload_n hx hb dX9_arm_15 rfl (lv_at hl 1 rfl) ?_
  refine k_get hC hK hP iX9 0 0 wf_X9_10 rfl (by decide) rfl rfl dX9_arm_16 ?_
  refine lv_aload_n hx hb dX9_arm_19 rfl (lv_at hl 1 rfl) ?_
  refine k_get hC hK hP iX9 0 6 wf_X9_50 rfl (by decide) rfl rfl dX9_arm_20 ?_
  refine lv_iconst (v := 0) hx hb dX9_arm_23 (by decide) ?_
  refine k_cl (wr := [(a0, .inr (9, [.ref a1, .ref a2, .ref a3, .int 0, .int 0, .ref a4, .ref a5, .ref a6, .ref a7])), (a1, .inr (7, [.int 100, .int 100, .int 0, .ref a8, .ref a9, .int 0, .ref a10, .ref a11, .ref a12, .ref a13, .ref a14, .ref a15, .ref a16, .ref a17, .ref a18])), (a9, .inl (cI, 2, .inl (upd (upd (fun _ => 0) 0 16) 1 16))), (a8, .inl (cI, 2, .inl (upd (upd (fun _ => 0) 0 16) 1 16))), (a17, .inr (8, [.ref a19, .ref a20, .ref a21, .ref a22, .ref a23, .ref a24, .ref a25, .int 0])), (a3, .inr (8, [.ref a26, .ref a27, .ref a28, .ref a29, .ref a30, .ref a31, .ref a32, .int 0])), (a4, .inr (4, [.ref a1, .ref a5, .ref a35, .ref a36, .ref a37, .ref a38, .ref a39, .int 100, .int 0, .int 0, .int (-1)])), (a35, .inr (8, [.ref a40, .ref a41, .ref a42, .ref a43, .ref a44, .ref a45, .ref a46, .int 0])), (a36, .inl (cI, 7, .inl (fun _ => 0)))]) (k_rV hC hN hK hP hD (c68_X0_row l G cI cJ cB cZ a5 a33) [6, 10] rfl (by decide) mi_X0_row in_X0_row se_X0_row wm_X9_132 0 6 rfl rfl rfl hl.1 rfl rfl (Nat.le_of_ble_eq_true rfl) ⟨(Nat.le_of_ble_eq_true rfl), (Nat.le_of_ble_eq_true rfl)⟩ dX9_arm_24 ⟨(Nat.le_of_ble_eq_true rfl), (Nat.le_of_ble_eq_true rfl)⟩) hP hD hS hA [6, 10] [0, 1, 2, 3, 4, 5, 7, 8, 9] rfl rfl (by decide) (by decide) (fun r2 u2 H locs hp hP hD hS => ?_)
  have hP : va_P G cl [(a0, .inr (9, [.ref a1, .ref a2, .ref a3, .int 0, .int 0, .ref a4, .ref a5, .ref a6, .ref a7])), (a1, .inr (7, [.int 100, .int 100, .int 0, .ref a8, .ref a9, .int 0, .ref a10, .ref a11, .ref a12, .ref a13, .ref a14, .ref a15, .ref a16, .ref a17, .ref a18])), (a9, .inl (cI, 2, .inl (upd (upd (fun _ => 0) 0 16) 1 16))), (a8, .inl (cI, 2, .inl (upd (upd (fun _ => 0) 0 16) 1 16))), (a17, .inr (8, [.ref a19, .ref a20, .ref a21, .ref a22, .ref a23, .ref a24, .ref a25, .int 0])), (a3, .inr (8, [.ref a26, .ref a27, .ref a28, .ref a29, .ref a30, .ref a31, .ref a32, .int 0])), (a4, .inr (4, [.ref a1, .ref a5, .ref a35, .ref a36, .ref a37, .ref a38, .ref a39, .int 100, .int 0, .int 0, .int (-1)])), (a35, .inr (8, [.ref a40, .ref a41, .ref a42, .ref a43, .ref a44, .ref a45, .ref a46, .int 0])), (a36, .inl (cI, 7, .inl (fun _ => 0))), (a5, .inr (0, [.ref a33, .int 1, .int 1, .long 0, .int 1, .int 0, .long 0])), (a33, .inl (cJ, 256, .inr (.inl (vp_updL (fun _ => 0) 0 0))))] H := hP
  have hD : va_D A [(a0, .inr (9, [.ref a1, .ref a2, .ref a3, .int 0, .int 0, .ref a4, .ref a5, .ref a6, .ref a7])), (a1, .inr (7, [.int 100, .int 100, .int 0, .ref a8, .ref a9, .int 0, .ref a10, .ref a11, .ref a12, .ref a13, .ref a14, .ref a15, .ref a16, .ref a17, .ref a18])), (a9, .inl (cI, 2, .inl (upd (upd (fun _ => 0) 0 16) 1 16))), (a8, .inl (cI, 2, .inl (upd (upd (fun _ => 0) 0 16) 1 16))), (a17, .inr (8, [.ref a19, .ref a20, .ref a21, .ref a22, .ref a23, .ref a24, .ref a25, .int 0])), (a3, .inr (8, [.ref a26, .ref a27, .ref a28, .ref a29, .ref a30, .ref a31, .ref a32, .int 0])), (a4, .inr (4, [.ref a1, .ref a5, .ref a35, .ref a36, .ref a37, .ref a38, .ref a39, .int 100, .int 0, .int 0, .int (-1)])), (a35, .inr (8, [.ref a40, .ref a41, .ref a42, .ref a43, .ref a44, .ref a45, .ref a46, .int 0])), (a36, .inl (cI, 7, .inl (fun _ => 0))), (a5, .inr (0, [.ref a33, .int 1, .int 1, .long 0, .int 1, .int 0, .long 0])), (a33, .inl (cJ, 256, .inr (.inl (vp_updL (fun _ => 0) 0 0))))] := hD
  subst hp
  refine k_ci (wr := [(a0, .inr (9, [.ref a1, .ref a2, .ref a3, .int 0, .int 0, .ref a4, .ref a5, .ref a6, .ref a7])), (a9, .inl (cI, 2, .inl (upd (upd (fun _ => 0) 0 16) 1 16))), (a8, .inl (cI, 2, .inl (upd (upd (fun _ => 0) 0 16) 1 16))), (a17, .inr (8, [.ref a19, .ref a20, .ref a21, .ref a22, .ref a23, .ref a24, .ref a25, .int 0])), (a3, .inr (8, [.ref a26, .ref a27, .ref a28, .ref a29, .ref a30, .ref a31, .ref a32, .int 0])), (a4, .inr (4, [.ref a1, .ref a5, .ref a35, .ref a36, .ref a37, .ref a38, .ref a39, .int 100, .int 0, .int 0, .int (-1)])), (a35, .inr (8, [.ref a40, .ref a41, .ref a42, .ref a43, .ref a44, .ref a45, .ref a46, .int 0])), (a36, .inl (cI, 7, .inl (fun _ => 0))), (a5, .inr (0, [.ref a33, .int 1, .int 1, .long 0, .int 1, .int 0, .long 0])), (a33, .inl (cJ, 256, .inr (.inl (vp_updL (fun _ => 0) 0 0))))]) (k_rV hC hN hK hP hD (c70_X7_armOf l G cI cJ cB cZ a1 a8 a9 a10 a11 a12 a13 a14 a15 a16 a17 a18) [1] rfl (by decide) mi_X7_armOf in_X7_armOf se_X7_armOf wm_X9_207 7 1 rfl rfl rfl hl.1 rfl rfl (Nat.le_of_ble_eq_true rfl) ⟨(Nat.le_of_ble_eq_true rfl), (Nat.le_of_ble_eq_true rfl)⟩ dX9_arm_27 ⟨(Nat.le_of_ble_eq_true rfl), (Nat.le_of_ble_eq_true rfl)⟩) hP hD hS hA [1] [0, 2, 3, 4, 5, 6, 7, 8, 9, 10] rfl rfl (by decide) (by decide) (fun r3 u3 H locs hp hP hD hS => ?_)
  have hP : va_P G cl [(a0, .inr (9, [.ref a1, .ref a2, .ref a3, .int 0, .int 0, .ref a4, .ref a5, .ref a6, .ref a7])), (a9, .inl (cI, 2, .inl (upd (upd (fun _ => 0) 0 16) 1 16))), (a8, .inl (cI, 2, .inl (upd (upd (fun _ => 0) 0 16) 1 16))), (a17, .inr (8, [.ref a19, .ref a20, .ref a21, .ref a22, .ref a23, .ref a24, .ref a25, .int 0])), (a3, .inr (8, [.ref a26, .ref a27, .ref a28, .ref a29, .ref a30, .ref a31, .ref a32, .int 0])), (a4, .inr (4, [.ref a1, .ref a5, .ref a35, .ref a36, .ref a37, .ref a38, .ref a39, .int 100, .int 0, .int 0, .int (-1)])), (a35, .inr (8, [.ref a40, .ref a41, .ref a42, .ref a43, .ref a44, .ref a45, .ref a46, .int 0])), (a36, .inl (cI, 7, .inl (fun _ => 0))), (a5, .inr (0, [.ref a33, .int 1, .int 1, .long 0, .int 1, .int 0, .long 0])), (a33, .inl (cJ, 256, .inr (.inl (vp_updL (fun _ => 0) 0 0)))), (a1, .inr (7, [.int 100, .int 100, .int 0, .ref a8, .ref a9, .int 0, .ref a10, .ref a11, .ref a12, .ref a13, .ref a14, .ref a15, .ref a16, .ref a17, .ref a18]))] H := hP
  have hD : va_D A [(a0, .inr (9, [.ref a1, .ref a2, .ref a3, .int 0, .int 0, .ref a4, .ref a5, .ref a6, .ref a7])), (a9, .inl (cI, 2, .inl (upd (upd (fun _ => 0) 0 16) 1 16))), (a8, .inl (cI, 2, .inl (upd (upd (fun _ => 0) 0 16) 1 16))), (a17, .inr (8, [.ref a19, .ref a20, .ref a21, .ref a22, .ref a23, .ref a24, .ref a25, .int 0])), (a3, .inr (8, [.ref a26, .ref a27, .ref a28, .ref a29, .ref a30, .ref a31, .ref a32, .int 0])), (a4, .inr (4, [.ref a1, .ref a5, .ref a35, .ref a36, .ref a37, .ref a38, .ref a39, .int 100, .int 0, .int 0, .int (-1)])), (a35, .inr (8, [.ref a40, .ref a41, .ref a42, .ref a43, .ref a44, .ref a45, .ref a46, .int 0])), (a36, .inl (cI, 7, .inl (fun _ => 0))), (a5, .inr (0, [.ref a33, .int 1, .int 1, .long 0, .int 1, .int 0, .long 0])), (a33, .inl (cJ, 256, .inr (.inl (vp_updL (fun _ => 0) 0 0)))), (a1, .inr (7, [.int 100, .int 100, .int 0, .ref a8, .ref a9, .int 0, .ref a10, .ref a11, .ref a12, .ref a13, .ref a14, .ref a15, .ref a16, .ref a17, .ref a18]))] := hD
  subst hp
  refine lv_istore_n (lv' := [(3, .int 100), (2, .int 1), (0, .ref a0), (1, .int x0)]) hx hb dX9_arm_30 rfl hl (by decide) rfl (fun ls hl => ?_)
  refine lv_iconst (v := 1) hx hb dX9_arm_31 (by decide) ?_
  refine lv_istore (lv' := [(4, .int 1), (3, .int 100), (2, .int 1), (0, .ref a0), (1, .int x0)]) hx hb dX9_arm_32 hl (by decide) rfl (fun ls hl => ?_)
  refine lv_iload hx hb dX9_arm_34 (lv_at hl 0 rfl) ?_
  refine lv_iload_n hx hb dX9_arm_36 rfl (lv_at hl 2 rfl) ?_
  refine lv_icmp_ge (tgt := 68) hx hb dX9_arm_37 (by decide) (fun _ => ?_) (fun c_ => absurd (by decide +kernel) c_)
  refine lv_iconst (v := 1) hx hb dX9_arm_68 (by decide) ?_
  exact k_iret hC hr hlk hK hP hD hS () [] rfl (by decide) rfl (Nat.le_of_ble_eq_true rfl) (Nat.le_of_ble_eq_true rfl) dX9_arm_69
theorem dX9_swap_0 : decode cX9_swap 0 = .ok (.aload_n 0, 1) := by decide +kernel
theorem dX9_swap_1 : decode cX9_swap 1 = .ok (.iload_n 1, 1) := by decide +kernel
theorem dX9_swap_2 : decode cX9_swap 2 = .ok (.iload_n 2, 1) := by decide +kernel
theorem dX9_swap_3 : decode cX9_swap 3 = .ok (.invokevirtual 99, 3) := by decide +kernel
theorem dX9_swap_6 : decode cX9_swap 6 = .ok (.ifCond .ne 5, 3) := by decide +kernel
theorem dX9_swap_9 : decode cX9_swap 9 = .ok (.iconst (-1), 1) := by decide +kernel
theorem dX9_swap_10 : decode cX9_swap 10 = .ok (.ireturn, 1) := by decide +kernel
set_option maxHeartbeats 4000000 in
set_option maxRecDepth 100000 in
theorem c104_X9_swap (l : Launch) (G : va_G) (cI cJ cB cZ : ClassId) (a0 a1 a2 a3 a4 a5 a6 a7 a8 a9 a10 a11 a12 a13 a14 a15 a16 a17 a18 : Nat) (x0 : Int32) (x1 : Int32) (x2 : Int32) : Con l G (TY cI cJ cB cZ) yX9_swap cX9_swap 9 (some .int) ({ frames := 2, cells := 0, slots := 0, locals := 43 } : Room) [.ref a0, .int x0, .int x1, .int x2] [(a0, .inr (9, [.ref a1, .ref a2, .ref a3, .int 0, .int 0, .ref a4, .ref a5, .ref a6, .ref a7])), (a1, .inr (7, [.int 100, .int 100, .int 0, .ref a8, .ref a9, .int 0, .ref a10, .ref a11, .ref a12, .ref a13, .ref a14, .ref a15, .ref a16, .ref a17, .ref a18]))] (QI G (TY cI cJ cB cZ) (fun (r : Int32) (u : Unit) => r = (-1)) (fun u : Unit => [])) := by
  refine k_met (by decide) (Nat.le_of_ble_eq_true rfl) ?_
  intro p e s m below meth c A ls hC hr hlk hnm hN hK hA hP hD hS hl
  have hl : lv_has ls 9 [(0, .ref a0), (1, .int x0), (2, .int x1), (3, .int x2)] := hl
  obtain ⟨hx, hb, hml, hown, hts⟩ := id hC
  refine lv_aload_n hx hb dX9_swap_0 rfl (lv_at hl 0 rfl) ?_
  refine lv_iload_n hx hb dX9_swap_1 rfl (lv_at hl 1 rfl) ?_
  refine lv_iload_n hx hb dX9_swap_2 rfl (lv_at hl 2 rfl) ?_
  refine k_ci (wr := []) (k_rV hC hN hK hP hD (c31_X9_canWeigh l G cI cJ cB cZ a0 a1 a2 a3 a4 a5 a6 a7 a8 a9 a10 a11 a12 a13 a14 a15 a16 a17 a18 x0 x1) [0, 1] rfl (by decide) mi_X9_canWeigh in_X9_canWeigh se_X9_canWeigh wm_X9_99 9 0 rfl rfl rfl hl.1 rfl rfl (Nat.le_of_ble_eq_true rfl) ⟨(Nat.le_of_ble_eq_true rfl), (Nat.le_of_ble_eq_true rfl)⟩ dX9_swap_3 ⟨(Nat.le_of_ble_eq_true rfl), (Nat.le_of_ble_eq_true rfl)⟩) hP hD hS hA [0, 1] [] rfl rfl (by decide) (by decide) (fun r1 u1 H locs hp hP hD hS => ?_)
  have hP : va_P G cl [(a0, .inr (9, [.ref a1, .ref a2, .ref a3, .int 0, .int 0, .ref a4, .ref a5, .ref a6, .ref a7])), (a1, .inr (7, [.int 100, .int 100, .int 0, .ref a8, .ref a9, .int 0, .ref a10, .ref a11, .ref a12, .ref a13, .ref a14, .ref a15, .ref a16, .ref a17, .ref a18]))] H := hP
  have hD : va_D A [(a0, .inr (9, [.ref a1, .ref a2, .ref a3, .int 0, .int 0, .ref a4, .ref a5, .ref a6, .ref a7])), (a1, .inr (7, [.int 100, .int 100, .int 0, .ref a8, .ref a9, .int 0, .ref a10, .ref a11, .ref a12, .ref a13, .ref a14, .ref a15, .ref a16, .ref a17, .ref a18]))] := hD
  subst hp
  refine lv_if_ne (tgt := 11) hx hb dX9_swap_6 (by decide) (fun c_ => absurd (by decide +kernel) c_) (fun _ => ?_)
  refine lv_iconst (v := (-1)) hx hb dX9_swap_9 (by decide) ?_
  exact k_iret hC hr hlk hK hP hD hS () [] rfl (by decide) rfl (Nat.le_of_ble_eq_true rfl) (Nat.le_of_ble_eq_true rfl) dX9_swap_10
theorem dX9_owed_0 : decode cX9_owed 0 = .ok (.iload_n 1, 1) := by decide +kernel
theorem dX9_owed_1 : decode cX9_owed 1 = .ok (.ifCond .lt 17, 3) := by decide +kernel
theorem dX9_owed_18 : decode cX9_owed 18 = .ok (.ldc 218, 2) := by decide +kernel
set_option maxRecDepth 100000 in
theorem kc_X9_218 : Cond.constant RX9 218 (-2000000000) ∈ gw := gm (List.mem_of_getElem? (i := 1152) (by decide +kernel)) rfl
theorem dX9_owed_20 : decode cX9_owed 20 = .ok (.ireturn, 1) := by decide +kernel
theorem dX9_owed_4 : decode cX9_owed 4 = .ok (.iload_n 1, 1) := by decide +kernel
theorem dX9_owed_5 : decode cX9_owed 5 = .ok (.aload_n 0, 1) := by decide +kernel
theorem dX9_owed_6 : decode cX9_owed 6 = .ok (.getfield 10, 3) := by decide +kernel
theorem dX9_owed_9 : decode cX9_owed 9 = .ok (.getfield 211, 3) := by decide +kernel
set_option maxRecDepth 100000 in
theorem wf_X9_211 : Cond.fieldLinkNest RX9 211 "StoneTrust$Village" "sales" "LStoneTrust$Sales;" "StoneTrust" ∈ nests := nm_ (List.mem_of_getElem? (i := 265) (by decide +kernel)) rfl
theorem dX9_owed_12 : decode cX9_owed 12 = .ok (.getfield 215, 3) := by decide +kernel
set_option maxRecDepth 100000 in
theorem wf_X9_215 : Cond.fieldLinkNest RX9 215 "StoneTrust$Sales" "size" "I" "StoneTrust" ∈ nests := nm_ (List.mem_of_getElem? (i := 204) (by decide +kernel)) rfl
theorem dX9_owed_15 : decode cX9_owed 15 = .ok (.if_icmp .lt 6, 3) := by decide +kernel
set_option maxHeartbeats 4000000 in
set_option maxRecDepth 100000 in
theorem c105_X9_owed (l : Launch) (G : va_G) (cI cJ cB cZ : ClassId) (a0 a1 a2 a3 a4 a5 a6 a7 a8 a9 a10 a11 a12 a13 a14 a15 a16 a17 a18 a19 a20 a21 a22 : Nat) (x0 : Int32) (x1 : Int32) (x2 : Int32) : Con l G (TY cI cJ cB cZ) yX9_owed cX9_owed 6 (some .int) ({ frames := 0, cells := 0, slots := 0, locals := 0 } : Room) [.ref a0, .int x0, .int x1, .int x2] [(a0, .inr (9, [.ref a1, .ref a2, .ref a3, .int 0, .int 0, .ref a4, .ref a5, .ref a6, .ref a7])), (a1, .inr (7, [.int 100, .int 100, .int 0, .ref a8, .ref a9, .int 0, .ref a10, .ref a11, .ref a12, .ref a13, .ref a14, .ref a15, .ref a16, .ref a17, .ref a18])), (a18, .inr (3, [.ref a19, .ref a20, .ref a21, .ref a22, .int 0]))] (QI G (TY cI cJ cB cZ) (fun (r : Int32) (u : Unit) => r = (-2000000000)) (fun u : Unit => [])) := by
  refine k_met (by decide) (Nat.le_of_ble_eq_true rfl) ?_
  intro p e s m below meth c A ls hC hr hlk hnm hN hK hA hP hD hS hl
  have hl : lv_has ls 6 [(0, .ref a0), (1, .int x0), (2, .int x1), (3, .int x2)] := hl
  obtain ⟨hx, hb, hml, hown, hts⟩ := id hC
  refine lv_iload_n hx hb dX9_owed_0 rfl (lv_at hl 1 rfl) ?_
  refine lv_if_lt (tgt := 18) hx hb dX9_owed_1 (by decide) (fun c_1 => ?_) (fun c_1 => ?_)
  · have d_1 : x0.toInt < 0 := (fa_lt _ _).mp c_1
    refine lv_ldc (v := (-2000000000)) hx hb hown (hts _ kc_X9_218) dX9_owed_18 ?_
    exact k_iret hC hr hlk hK hP hD hS () [] rfl (by decide) rfl (Nat.le_of_ble_eq_true rfl) (Nat.le_of_ble_eq_true rfl) dX9_owed_20
  · have d_1 : 0 ≤ x0.toInt := fa_nlt c_1
    refine lv_iload_n hx hb dX9_owed_4 rfl (lv_at hl 1 rfl) ?_
    refine lv_aload_n hx hb dX9_owed_5 rfl (lv_at hl 0 rfl) ?_
    refine k_get hC hK hP iX9 0 0 wf_X9_10 rfl (by decide) rfl rfl dX9_owed_6 ?_
    refine k_getN hC hN hK hP iX7 1 14 wf_X9_211 rfl (by decide) rfl rfl dX9_owed_9 ?_
    refine k_getN hC hN hK hP iX3 2 4 wf_X9_215 rfl (by decide) rfl rfl dX9_owed_12 ?_
    refine lv_icmp_lt (tgt := 21) hx hb dX9_owed_15 (by decide) (fun c_2 => by have d_2 : x0.toInt < 0 := (fa_lt _ _).mp c_2; omega) (fun c_2 => ?_)
    have d_2 : 0 ≤ x0.toInt := fa_nlt c_2
    refine lv_ldc (v := (-2000000000)) hx hb hown (hts _ kc_X9_218) dX9_owed_18 ?_
    exact k_iret hC hr hlk hK hP hD hS () [] rfl (by decide) rfl (Nat.le_of_ble_eq_true rfl) (Nat.le_of_ble_eq_true rfl) dX9_owed_20
theorem dX7_owedBy_0 : decode cX7_owedBy 0 = .ok (.iconst 0, 1) := by decide +kernel
theorem dX7_owedBy_1 : decode cX7_owedBy 1 = .ok (.istore 4, 2) := by decide +kernel
theorem dX7_owedBy_3 : decode cX7_owedBy 3 = .ok (.iconst 0, 1) := by decide +kernel
theorem dX7_owedBy_4 : decode cX7_owedBy 4 = .ok (.istore 5, 2) := by decide +kernel
theorem dX7_owedBy_6 : decode cX7_owedBy 6 = .ok (.iload 5, 2) := by decide +kernel
theorem dX7_owedBy_8 : decode cX7_owedBy 8 = .ok (.aload_n 0, 1) := by decide +kernel
theorem dX7_owedBy_9 : decode cX7_owedBy 9 = .ok (.getfield 52, 3) := by decide +kernel
theorem dX7_owedBy_12 : decode cX7_owedBy 12 = .ok (.getfield 81, 3) := by decide +kernel
theorem dX7_owedBy_15 : decode cX7_owedBy 15 = .ok (.if_icmp .ge 35, 3) := by decide +kernel
theorem dX7_owedBy_50 : decode cX7_owedBy 50 = .ok (.iload 4, 2) := by decide +kernel
theorem dX7_owedBy_52 : decode cX7_owedBy 52 = .ok (.ireturn, 1) := by decide +kernel
set_option maxHeartbeats 4000000 in
set_option maxRecDepth 100000 in
theorem c106_X7_owedBy (l : Launch) (G : va_G) (cI cJ cB cZ : ClassId) (a0 a1 a2 a3 a4 a5 a6 a7 a8 a9 a10 a11 a12 a13 a14 a15 : Nat) (x0 : Int32) : Con l G (TY cI cJ cB cZ) yX7_owedBy cX7_owedBy 6 (some .int) ({ frames := 0, cells := 0, slots := 0, locals := 0 } : Room) [.ref a0, .long 0, .int x0] [(a0, .inr (7, [.int 100, .int 100, .int 0, .ref a1, .ref a2, .int 0, .ref a3, .ref a4, .ref a5, .ref a6, .ref a7, .ref a8, .ref a9, .ref a10, .ref a11])), (a11, .inr (3, [.ref a12, .ref a13, .ref a14, .ref a15, .int 0]))] (QI G (TY cI cJ cB cZ) (fun (r : Int32) (u : Unit) => r = 0) (fun u : Unit => [(a0, .inr (7, [.int 100, .int 100, .int 0, .ref a1, .ref a2, .int 0, .ref a3, .ref a4, .ref a5, .ref a6, .ref a7, .ref a8, .ref a9, .ref a10, .ref a11])), (a11, .inr (3, [.ref a12, .ref a13, .ref a14, .ref a15, .int 0]))])) := by
  refine k_met (by decide) (Nat.le_of_ble_eq_true rfl) ?_
  intro p e s m below meth c A ls hC hr hlk hnm hN hK hA hP hD hS hl
  have hl : lv_has ls 6 [(0, .ref a0), (1, .long 0), (3, .int x0)] := hl
  obtain ⟨hx, hb, hml, hown, hts⟩ := id hC
  refine lv_iconst (v := 0) hx hb dX7_owedBy_0 (by decide) ?_
  refine lv_istore (lv' := [(4, .int 0), (0, .ref a0), (1, .long 0), (3, .int x0)]) hx hb dX7_owedBy_1 hl (by decide) rfl (fun ls hl => ?_)
  refine lv_iconst (v := 0) hx hb dX7_owedBy_3 (by decide) ?_
  refine lv_istore (lv' := [(5, .int 0), (4, .int 0), (0, .ref a0), (1, .long 0), (3, .int x0)]) hx hb dX7_owedBy_4 hl (by decide) rfl (fun ls hl => ?_)
  refine lv_iload hx hb dX7_owedBy_6 (lv_at hl 0 rfl) ?_
  refine lv_aload_n hx hb dX7_owedBy_8 rfl (lv_at hl 2 rfl) ?_
  refine k_get hC hK hP iX7 0 14 wf_X7_52 rfl (by decide) rfl rfl dX7_owedBy_9 ?_
  refine k_getN hC hN hK hP iX3 1 4 wf_X7_81 rfl (by decide) rfl rfl dX7_owedBy_12 ?_
  refine lv_icmp_ge (tgt := 50) hx hb dX7_owedBy_15 (by decide) (fun _ => ?_) (fun c_ => absurd (by decide +kernel) c_)
  refine lv_iload hx hb dX7_owedBy_50 (lv_at hl 1 rfl) ?_
  exact k_iret hC hr hlk hK hP hD hS () [0, 1] rfl (by decide) rfl (Nat.le_of_ble_eq_true rfl) (Nat.le_of_ble_eq_true rfl) dX7_owedBy_52
set_option maxHeartbeats 4000000 in
set_option maxRecDepth 100000 in
theorem c107_X1_take (l : Launch) (G : va_G) (cI cJ cB cZ : ClassId) (a0 : Nat) : Con l G (TY cI cJ cB cZ) yX1_take cX1_take 2 none ({ frames := 0, cells := 0, slots := 0, locals := 0 } : Room) [.ref a0, .int 0] [(a0, .inr (1, [.int 0, .int 0, .int 0, .int 0, .int 0]))] (QV G (TY cI cJ cB cZ) (fun u : Unit => True) (fun u : Unit => [(a0, .inr (1, [.int 1, .int 0, .int 0, .int 0, .int 0]))])) := by
  refine k_met (by decide) (Nat.le_of_ble_eq_true rfl) ?_
  intro p e s m below meth c A ls hC hr hlk hnm hN hK hA hP hD hS hl
  have hl : lv_has ls 2 [(0, .ref a0), (1, .int 0)] := hl
  obtain ⟨hx, hb, hml, hown, hts⟩ := id hC
  refine lv_aload_n hx hb dX1_take_0 rfl (lv_at hl 0 rfl) ?_
  refine k_get hC hK hP iX1 0 0 wf_X1_9 rfl (by decide) rfl rfl dX1_take_1 ?_
  refine lv_if_eq (tgt := 15) hx hb dX1_take_4 (by decide) (fun _ => ?_) (fun c_ => absurd (by decide +kernel) c_)
  refine lv_aload_n hx hb dX1_take_15 rfl (lv_at hl 0 rfl) ?_
  refine lv_iload_n hx hb dX1_take_16 rfl (lv_at hl 1 rfl) ?_
  refine k_put hC hK hP hD hS iX1 tyX1_ok nmX1 0 1 wf_X1_15 rfl (by decide) rfl rfl rfl rfl (Nat.le_of_ble_eq_true rfl) dX1_take_17 (fun H locs hP hD hS => ?_)
  have hP : va_P G cl [(a0, .inr (1, [.int 0, .int 0, .int 0, .int 0, .int 0]))] H := hP
  have hD : va_D A [(a0, .inr (1, [.int 0, .int 0, .int 0, .int 0, .int 0]))] := hD
  refine lv_aload_n hx hb dX1_take_20 rfl (lv_at hl 0 rfl) ?_
  refine k_get hC hK hP iX1 0 0 wf_X1_9 rfl (by decide) rfl rfl dX1_take_21 ?_
  refine lv_if_eq (tgt := 35) hx hb dX1_take_24 (by decide) (fun _ => ?_) (fun c_ => absurd (by decide +kernel) c_)
  refine lv_aload_n hx hb dX1_take_35 rfl (lv_at hl 0 rfl) ?_
  refine lv_iload_n hx hb dX1_take_36 rfl (lv_at hl 1 rfl) ?_
  refine k_put hC hK hP hD hS iX1 tyX1_ok nmX1 0 2 wf_X1_19 rfl (by decide) rfl rfl rfl rfl (Nat.le_of_ble_eq_true rfl) dX1_take_37 (fun H locs hP hD hS => ?_)
  have hP : va_P G cl [(a0, .inr (1, [.int 0, .int 0, .int 0, .int 0, .int 0]))] H := hP
  have hD : va_D A [(a0, .inr (1, [.int 0, .int 0, .int 0, .int 0, .int 0]))] := hD
  refine lv_aload_n hx hb dX1_take_40 rfl (lv_at hl 0 rfl) ?_
  refine lv_iconst (v := 1) hx hb dX1_take_41 (by decide) ?_
  refine k_put hC hK hP hD hS iX1 tyX1_ok nmX1 0 0 wf_X1_9 rfl (by decide) rfl rfl rfl rfl (Nat.le_of_ble_eq_true rfl) dX1_take_42 (fun H locs hP hD hS => ?_)
  have hP : va_P G cl [(a0, .inr (1, [.int 1, .int 0, .int 0, .int 0, .int 0]))] H := hP
  have hD : va_D A [(a0, .inr (1, [.int 1, .int 0, .int 0, .int 0, .int 0]))] := hD
  exact k_vret hC hr hlk hK hP hD hS () [0] rfl (by decide) trivial (Nat.le_of_ble_eq_true rfl) (Nat.le_of_ble_eq_true rfl) dX1_take_45
set_option maxHeartbeats 4000000 in
set_option maxRecDepth 100000 in
theorem c108_X1_edge (l : Launch) (G : va_G) (cI cJ cB cZ : ClassId) (a0 : Nat) (x0 : Int32) : Con l G (TY cI cJ cB cZ) yX1_edge cX1_edge 2 (some .int) ({ frames := 0, cells := 0, slots := 0, locals := 0 } : Room) [.ref a0, .int x0] [(a0, .inr (1, [.int 1, .int 0, .int 0, .int 0, .int 0]))] (QI G (TY cI cJ cB cZ) (fun (r : Int32) (u : Unit) => r = 0) (fun u : Unit => [(a0, .inr (1, [.int 1, .int 0, .int 0, .int 0, .int 0]))])) := by
  refine k_met (by decide) (Nat.le_of_ble_eq_true rfl) ?_
  intro p e s m below meth c A ls hC hr hlk hnm hN hK hA hP hD hS hl
  have hl : lv_has ls 2 [(0, .ref a0), (1, .int x0)] := hl
  obtain ⟨hx, hb, hml, hown, hts⟩ := id hC
  refine lv_aload_n hx hb dX1_edge_0 rfl (lv_at hl 0 rfl) ?_
  refine k_get hC hK hP iX1 0 0 wf_X1_9 rfl (by decide) rfl rfl dX1_edge_1 ?_
  refine lv_if_ne (tgt := 9) hx hb dX1_edge_4 (by decide) (fun _ => ?_) (fun c_ => absurd c_ (by decide +kernel))
  refine lv_iload_n hx hb dX1_edge_9 rfl (lv_at hl 1 rfl) ?_
  refine lv_if_eq (tgt := 20) hx hb dX1_edge_10 (by decide) (fun c_1 => ?_) (fun c_1 => ?_)
  · have d_1 : x0.toInt = 0 := (fa_eq _ _).mp c_1
    obtain rfl : x0 = 0 := (fa_eq _ _).mpr (show x0.toInt = 0 by omega)
    refine lv_aload_n hx hb dX1_edge_20 rfl (lv_at hl 0 rfl) ?_
    refine k_get hC hK hP iX1 0 1 wf_X1_15 rfl (by decide) rfl rfl dX1_edge_21 ?_
    exact k_iret hC hr hlk hK hP hD hS () [0] rfl (by decide) rfl (Nat.le_of_ble_eq_true rfl) (Nat.le_of_ble_eq_true rfl) dX1_edge_24
  · have d_1 : x0.toInt ≠ 0 := fa_ne c_1
    refine lv_aload_n hx hb dX1_edge_13 rfl (lv_at hl 0 rfl) ?_
    refine k_get hC hK hP iX1 0 2 wf_X1_19 rfl (by decide) rfl rfl dX1_edge_14 ?_
    refine lv_goto (tgt := 24) hx hb dX1_edge_17 (by decide) ?_
    exact k_iret hC hr hlk hK hP hD hS () [0] rfl (by decide) rfl (Nat.le_of_ble_eq_true rfl) (Nat.le_of_ble_eq_true rfl) dX1_edge_24
theorem dX9_debt_0 : decode cX9_debt 0 = .ok (.iload_n 1, 1) := by decide +kernel
theorem dX9_debt_1 : decode cX9_debt 1 = .ok (.invokestatic 107, 3) := by decide +kernel
theorem dX9_debt_4 : decode cX9_debt 4 = .ok (.ifCond .ne 6, 3) := by decide +kernel
theorem dX9_debt_10 : decode cX9_debt 10 = .ok (.aload_n 0, 1) := by decide +kernel
theorem dX9_debt_11 : decode cX9_debt 11 = .ok (.iload_n 3, 1) := by decide +kernel
theorem dX9_debt_12 : decode cX9_debt 12 = .ok (.invokevirtual 125, 3) := by decide +kernel
theorem dX9_debt_15 : decode cX9_debt 15 = .ok (.istore 4, 2) := by decide +kernel
theorem dX9_debt_17 : decode cX9_debt 17 = .ok (.aload_n 0, 1) := by decide +kernel
theorem dX9_debt_18 : decode cX9_debt 18 = .ok (.getfield 61, 3) := by decide +kernel
theorem dX9_debt_21 : decode cX9_debt 21 = .ok (.invokevirtual 140, 3) := by decide +kernel
theorem dX9_debt_24 : decode cX9_debt 24 = .ok (.iconst 0, 1) := by decide +kernel
theorem dX9_debt_25 : decode cX9_debt 25 = .ok (.istore 5, 2) := by decide +kernel
theorem dX9_debt_27 : decode cX9_debt 27 = .ok (.iload 5, 2) := by decide +kernel
theorem dX9_debt_29 : decode cX9_debt 29 = .ok (.iload 4, 2) := by decide +kernel
theorem dX9_debt_31 : decode cX9_debt 31 = .ok (.if_icmp .ge 33, 3) := by decide +kernel
theorem dX9_debt_34 : decode cX9_debt 34 = .ok (.aload_n 0, 1) := by decide +kernel
theorem dX9_debt_35 : decode cX9_debt 35 = .ok (.getfield 61, 3) := by decide +kernel
theorem dX9_debt_38 : decode cX9_debt 38 = .ok (.aload_n 0, 1) := by decide +kernel
theorem dX9_debt_39 : decode cX9_debt 39 = .ok (.getfield 10, 3) := by decide +kernel
theorem dX9_debt_42 : decode cX9_debt 42 = .ok (.aload_n 0, 1) := by decide +kernel
theorem dX9_debt_43 : decode cX9_debt 43 = .ok (.getfield 50, 3) := by decide +kernel
theorem dX9_debt_46 : decode cX9_debt 46 = .ok (.iload 5, 2) := by decide +kernel
theorem dX9_debt_48 : decode cX9_debt 48 = .ok (.invokevirtual 132, 3) := by decide +kernel
theorem dX9_debt_51 : decode cX9_debt 51 = .ok (.iload_n 1, 1) := by decide +kernel
theorem dX9_debt_52 : decode cX9_debt 52 = .ok (.invokevirtual 225, 3) := by decide +kernel
set_option maxRecDepth 100000 in
theorem wm_X9_225 : Cond.methodLink RX9 225 yX7_owedBy ∈ gw := gm (List.mem_of_getElem? (i := 1165) (by decide +kernel)) rfl
set_option maxRecDepth 100000 in
theorem mi_X7_owedBy : MI yX7_owedBy cX7_owedBy 6 (some .int) 2 := ⟨gm (List.mem_of_getElem? (i := 1168) rfl) rfl, gm (List.mem_of_getElem? (i := 113) (by decide +kernel)) rfl, by decide, by decide, by decide +kernel⟩
set_option maxRecDepth 100000 in
theorem in_X7_owedBy : Cond.instanceMethod yX7_owedBy ∈ gw := gm (List.mem_of_getElem? (i := 1166) (by decide +kernel)) rfl
set_option maxRecDepth 100000 in
theorem se_X7_owedBy : Cond.selects yX7_owedBy.cls yX7_owedBy yX7_owedBy ∈ gw := gm (List.mem_of_getElem? (i := 1167) (by decide +kernel)) rfl
theorem dX9_debt_55 : decode cX9_debt 55 = .ok (.invokevirtual 143, 3) := by decide +kernel
theorem dX9_debt_58 : decode cX9_debt 58 = .ok (.iinc 5 1, 3) := by decide +kernel
theorem dX9_debt_61 : decode cX9_debt 61 = .ok (.goto (-34), 3) := by decide +kernel
theorem dX9_debt_64 : decode cX9_debt 64 = .ok (.iload 4, 2) := by decide +kernel
theorem dX9_debt_66 : decode cX9_debt 66 = .ok (.ifCond .le 14, 3) := by decide +kernel
theorem dX9_debt_69 : decode cX9_debt 69 = .ok (.aload_n 0, 1) := by decide +kernel
theorem dX9_debt_70 : decode cX9_debt 70 = .ok (.getfield 61, 3) := by decide +kernel
theorem dX9_debt_73 : decode cX9_debt 73 = .ok (.iload_n 2, 1) := by decide +kernel
theorem dX9_debt_74 : decode cX9_debt 74 = .ok (.invokevirtual 222, 3) := by decide +kernel
theorem dX9_debt_77 : decode cX9_debt 77 = .ok (.goto 5, 3) := by decide +kernel
theorem dX9_debt_82 : decode cX9_debt 82 = .ok (.ireturn, 1) := by decide +kernel
theorem dX9_debt_7 : decode cX9_debt 7 = .ok (.ldc 218, 2) := by decide +kernel
theorem dX9_debt_9 : decode cX9_debt 9 = .ok (.ireturn, 1) := by decide +kernel
set_option maxHeartbeats 4000000 in
set_option maxRecDepth 100000 in
theorem c109_X9_debt (l : Launch) (G : va_G) (cI cJ cB cZ : ClassId) (a0 a1 a2 a3 a4 a5 a6 a7 a8 a9 a10 a11 a12 a13 a14 a15 a16 a17 a18 a19 a20 a21 a22 a23 a24 a25 a26 a27 a28 a29 a30 a31 a32 a33 a34 a35 a36 a37 a38 a39 a40 a41 a42 a43 a44 a45 a46 a47 a48 a49 a50 : Nat) (x0 : Int32) (x1 : Int32) (x2 : Int32) : Con l G (TY cI cJ cB cZ) yX9_debt cX9_debt 6 (some .int) ({ frames := 4, cells := 0, slots := 0, locals := 94 } : Room) [.ref a0, .int x0, .int x1, .int x2] [(a0, .inr (9, [.ref a1, .ref a2, .ref a3, .int 0, .int 0, .ref a4, .ref a5, .ref a6, .ref a7])), (a1, .inr (7, [.int 100, .int 100, .int 0, .ref a8, .ref a9, .int 0, .ref a10, .ref a11, .ref a12, .ref a13, .ref a14, .ref a15, .ref a16, .ref a17, .ref a18])), (a9, .inl (cI, 2, .inl (upd (upd (fun _ => 0) 0 16) 1 16))), (a8, .inl (cI, 2, .inl (upd (upd (fun _ => 0) 0 16) 1 16))), (a17, .inr (8, [.ref a19, .ref a20, .ref a21, .ref a22, .ref a23, .ref a24, .ref a25, .int 0])), (a3, .inr (8, [.ref a26, .ref a27, .ref a28, .ref a29, .ref a30, .ref a31, .ref a32, .int 0])), (a5, .inr (0, [.ref a33, .int 0, .int 0, .long 0, .int 0, .int 0, .long 0])), (a4, .inr (4, [.ref a34, .ref a5, .ref a35, .ref a36, .ref a37, .ref a38, .ref a39, .int 100, .int 0, .int 0, .int (-1)])), (a35, .inr (8, [.ref a40, .ref a41, .ref a42, .ref a43, .ref a44, .ref a45, .ref a46, .int 0])), (a36, .inl (cI, 7, .inl (fun _ => 0))), (a33, .inl (cJ, 256, .inr (.inl (fun _ => 0)))), (a7, .inr (1, [.int 0, .int 0, .int 0, .int 0, .int 0])), (a18, .inr (3, [.ref a47, .ref a48, .ref a49, .ref a50, .int 0]))] (QI G (TY cI cJ cB cZ) (fun (r : Int32) (u : Unit) => r = sp_debt x0) (fun u : Unit => [])) := by
  refine k_met (by decide) (Nat.le_of_ble_eq_true rfl) ?_
  intro p e s m below meth c A ls hC hr hlk hnm hN hK hA hP hD hS hl
  have hl : lv_has ls 6 [(0, .ref a0), (1, .int x0), (2, .int x1), (3, .int x2)] := hl
  obtain ⟨hx, hb, hml, hown, hts⟩ := id hC
  refine lv_iload_n hx hb dX9_debt_0 rfl (lv_at hl 1 rfl) ?_
  refine k_ci (wr := [(a0, .inr (9, [.ref a1, .ref a2, .ref a3, .int 0, .int 0, .ref a4, .ref a5, .ref a6, .ref a7])), (a1, .inr (7, [.int 100, .int 100, .int 0, .ref a8, .ref a9, .int 0, .ref a10, .ref a11, .ref a12, .ref a13, .ref a14, .ref a15, .ref a16, .ref a17, .ref a18])), (a9, .inl (cI, 2, .inl (upd (upd (fun _ => 0) 0 16) 1 16))), (a8, .inl (cI, 2, .inl (upd (upd (fun _ => 0) 0 16) 1 16))), (a17, .inr (8, [.ref a19, .ref a20, .ref a21, .ref a22, .ref a23, .ref a24, .ref a25, .int 0])), (a3, .inr (8, [.ref a26, .ref a27, .ref a28, .ref a29, .ref a30, .ref a31, .ref a32, .int 0])), (a5, .inr (0, [.ref a33, .int 0, .int 0, .long 0, .int 0, .int 0, .long 0])), (a4, .inr (4, [.ref a34, .ref a5, .ref a35, .ref a36, .ref a37, .ref a38, .ref a39, .int 100, .int 0, .int 0, .int (-1)])), (a35, .inr (8, [.ref a40, .ref a41, .ref a42, .ref a43, .ref a44, .ref a45, .ref a46, .int 0])), (a36, .inl (cI, 7, .inl (fun _ => 0))), (a33, .inl (cJ, 256, .inr (.inl (fun _ => 0)))), (a7, .inr (1, [.int 0, .int 0, .int 0, .int 0, .int 0])), (a18, .inr (3, [.ref a47, .ref a48, .ref a49, .ref a50, .int 0]))]) (k_rS hC hN hK hP hD (c36_X9_isTrader l G cI cJ cB cZ x0) [] rfl (by decide) mi_X9_isTrader st_X9_isTrader wm_X9_107 hl.1 rfl rfl (Nat.le_of_ble_eq_true rfl) ⟨(Nat.le_of_ble_eq_true rfl), (Nat.le_of_ble_eq_true rfl)⟩ dX9_debt_1 ⟨(Nat.le_of_ble_eq_true rfl), (Nat.le_of_ble_eq_true rfl)⟩) hP hD hS hA [] [0, 1, 2, 3, 4, 5, 6, 7, 8, 9, 10, 11, 12] rfl rfl (by decide) (by decide) (fun r1 u1 H locs hp hP hD hS => ?_)
  have hP : va_P G cl [(a0, .inr (9, [.ref a1, .ref a2, .ref a3, .int 0, .int 0, .ref a4, .ref a5, .ref a6, .ref a7])), (a1, .inr (7, [.int 100, .int 100, .int 0, .ref a8, .ref a9, .int 0, .ref a10, .ref a11, .ref a12, .ref a13, .ref a14, .ref a15, .ref a16, .ref a17, .ref a18])), (a9, .inl (cI, 2, .inl (upd (upd (fun _ => 0) 0 16) 1 16))), (a8, .inl (cI, 2, .inl (upd (upd (fun _ => 0) 0 16) 1 16))), (a17, .inr (8, [.ref a19, .ref a20, .ref a21, .ref a22, .ref a23, .ref a24, .ref a25, .int 0])), (a3, .inr (8, [.ref a26, .ref a27, .ref a28, .ref a29, .ref a30, .ref a31, .ref a32, .int 0])), (a5, .inr (0, [.ref a33, .int 0, .int 0, .long 0, .int 0, .int 0, .long 0])), (a4, .inr (4, [.ref a34, .ref a5, .ref a35, .ref a36, .ref a37, .ref a38, .ref a39, .int 100, .int 0, .int 0, .int (-1)])), (a35, .inr (8, [.ref a40, .ref a41, .ref a42, .ref a43, .ref a44, .ref a45, .ref a46, .int 0])), (a36, .inl (cI, 7, .inl (fun _ => 0))), (a33, .inl (cJ, 256, .inr (.inl (fun _ => 0)))), (a7, .inr (1, [.int 0, .int 0, .int 0, .int 0, .int 0])), (a18, .inr (3, [.ref a47, .ref a48, .ref a49, .ref a50, .int 0]))] H := hP
  have hD : va_D A [(a0, .inr (9, [.ref a1, .ref a2, .ref a3, .int 0, .int 0, .ref a4, .ref a5, .ref a6, .ref a7])), (a1, .inr (7, [.int 100, .int 100, .int 0, .ref a8, .ref a9, .int 0, .ref a10, .ref a11, .ref a12, .ref a13, .ref a14, .ref a15, .ref a16, .ref a17, .ref a18])), (a9, .inl (cI, 2, .inl (upd (upd (fun _ => 0) 0 16) 1 16))), (a8, .inl (cI, 2, .inl (upd (upd (fun _ => 0) 0 16) 1 16))), (a17, .inr (8, [.ref a19, .ref a20, .ref a21, .ref a22, .ref a23, .ref a24, .ref a25, .int 0])), (a3, .inr (8, [.ref a26, .ref a27, .ref a28, .ref a29, .ref a30, .ref a31, .ref a32, .int 0])), (a5, .inr (0, [.ref a33, .int 0, .int 0, .long 0, .int 0, .int 0, .long 0])), (a4, .inr (4, [.ref a34, .ref a5, .ref a35, .ref a36, .ref a37, .ref a38, .ref a39, .int 100, .int 0, .int 0, .int (-1)])), (a35, .inr (8, [.ref a40, .ref a41, .ref a42, .ref a43, .ref a44, .ref a45, .ref a46, .int 0])), (a36, .inl (cI, 7, .inl (fun _ => 0))), (a33, .inl (cJ, 256, .inr (.inl (fun _ => 0)))), (a7, .inr (1, [.int 0, .int 0, .int 0, .int 0, .int 0])), (a18, .inr (3, [.ref a47, .ref a48, .ref a49, .ref a50, .int 0]))] := hD
  rcases hp with ⟨rfl, hq1⟩ | ⟨rfl, hq1⟩
  · skip
    refine lv_if_ne (tgt := 10) hx hb dX9_debt_4 (by decide) (fun _ => ?_) (fun c_ => absurd c_ (by decide +kernel))
    refine lv_aload_n hx hb dX9_debt_10 rfl (lv_at hl 0 rfl) ?_
    refine lv_iload_n hx hb dX9_debt_11 rfl (lv_at hl 3 rfl) ?_
    refine k_ci (wr := [(a7, .inr (1, [.int 0, .int 0, .int 0, .int 0, .int 0])), (a18, .inr (3, [.ref a47, .ref a48, .ref a49, .ref a50, .int 0]))]) (k_rV hC hN hK hP hD (c65_X9_known l G cI cJ cB cZ a0 a1 a2 a3 a4 a5 a6 a7 a8 a9 a10 a11 a12 a13 a14 a15 a16 a17 a18 a19 a20 a21 a22 a23 a24 a25 a26 a27 a28 a29 a30 a31 a32 a33 a34 a35 a36 a37 a38 a39 a40 a41 a42 a43 a44 a45 a46 x2) [0, 1, 2, 3, 4, 5, 6, 7, 8, 9, 10] rfl (by decide) mi_X9_known in_X9_known se_X9_known wm_X9_125 9 0 rfl rfl rfl hl.1 rfl rfl (Nat.le_of_ble_eq_true rfl) ⟨(Nat.le_of_ble_eq_true rfl), (Nat.le_of_ble_eq_true rfl)⟩ dX9_debt_12 ⟨(Nat.le_of_ble_eq_true rfl), (Nat.le_of_ble_eq_true rfl)⟩) hP hD hS hA [0, 1, 2, 3, 4, 5, 6, 7, 8, 9, 10] [11, 12] rfl rfl (by decide) (by decide) (fun r2 u2 H locs hp hP hD hS => ?_)
    have hP : va_P G cl [(a7, .inr (1, [.int 0, .int 0, .int 0, .int 0, .int 0])), (a18, .inr (3, [.ref a47, .ref a48, .ref a49, .ref a50, .int 0])), (a0, .inr (9, [.ref a1, .ref a2, .ref a3, .int 0, .int 0, .ref a4, .ref a5, .ref a6, .ref a7])), (a1, .inr (7, [.int 100, .int 100, .int 0, .ref a8, .ref a9, .int 0, .ref a10, .ref a11, .ref a12, .ref a13, .ref a14, .ref a15, .ref a16, .ref a17, .ref a18])), (a9, .inl (cI, 2, .inl (upd (upd (fun _ => 0) 0 16) 1 16))), (a8, .inl (cI, 2, .inl (upd (upd (fun _ => 0) 0 16) 1 16))), (a17, .inr (8, [.ref a19, .ref a20, .ref a21, .ref a22, .ref a23, .ref a24, .ref a25, .int 0])), (a3, .inr (8, [.ref a26, .ref a27, .ref a28, .ref a29, .ref a30, .ref a31, .ref a32, .int 0])), (a5, .inr (0, [.ref a33, .int 1, .int 1, .long 0, .int 1, .int 0, .long 0])), (a4, .inr (4, [.ref a1, .ref a5, .ref a35, .ref a36, .ref a37, .ref a38, .ref a39, .int 100, .int 0, .int 0, .int (-1)])), (a35, .inr (8, [.ref a40, .ref a41, .ref a42, .ref a43, .ref a44, .ref a45, .ref a46, .int 0])), (a36, .inl (cI, 7, .inl (fun _ => 0))), (a33, .inl (cJ, 256, .inr (.inl (vp_updL (fun _ => 0) 0 0))))] H := hP
    have hD : va_D A [(a7, .inr (1, [.int 0, .int 0, .int 0, .int 0, .int 0])), (a18, .inr (3, [.ref a47, .ref a48, .ref a49, .ref a50, .int 0])), (a0, .inr (9, [.ref a1, .ref a2, .ref a3, .int 0, .int 0, .ref a4, .ref a5, .ref a6, .ref a7])), (a1, .inr (7, [.int 100, .int 100, .int 0, .ref a8, .ref a9, .int 0, .ref a10, .ref a11, .ref a12, .ref a13, .ref a14, .ref a15, .ref a16, .ref a17, .ref a18])), (a9, .inl (cI, 2, .inl (upd (upd (fun _ => 0) 0 16) 1 16))), (a8, .inl (cI, 2, .inl (upd (upd (fun _ => 0) 0 16) 1 16))), (a17, .inr (8, [.ref a19, .ref a20, .ref a21, .ref a22, .ref a23, .ref a24, .ref a25, .int 0])), (a3, .inr (8, [.ref a26, .ref a27, .ref a28, .ref a29, .ref a30, .ref a31, .ref a32, .int 0])), (a5, .inr (0, [.ref a33, .int 1, .int 1, .long 0, .int 1, .int 0, .long 0])), (a4, .inr (4, [.ref a1, .ref a5, .ref a35, .ref a36, .ref a37, .ref a38, .ref a39, .int 100, .int 0, .int 0, .int (-1)])), (a35, .inr (8, [.ref a40, .ref a41, .ref a42, .ref a43, .ref a44, .ref a45, .ref a46, .int 0])), (a36, .inl (cI, 7, .inl (fun _ => 0))), (a33, .inl (cJ, 256, .inr (.inl (vp_updL (fun _ => 0) 0 0))))] := hD
    subst hp
    refine lv_istore (lv' := [(4, .int 1), (0, .ref a0), (1, .int x0), (2, .int x1), (3, .int x2)]) hx hb dX9_debt_15 hl (by decide) rfl (fun ls hl => ?_)
    refine lv_aload_n hx hb dX9_debt_17 rfl (lv_at hl 1 rfl) ?_
    refine k_get hC hK hP iX9 2 8 wf_X9_61 rfl (by decide) rfl rfl dX9_debt_18 ?_
    refine k_cv (wr := [(a18, .inr (3, [.ref a47, .ref a48, .ref a49, .ref a50, .int 0])), (a0, .inr (9, [.ref a1, .ref a2, .ref a3, .int 0, .int 0, .ref a4, .ref a5, .ref a6, .ref a7])), (a1, .inr (7, [.int 100, .int 100, .int 0, .ref a8, .ref a9, .int 0, .ref a10, .ref a11, .ref a12, .ref a13, .ref a14, .ref a15, .ref a16, .ref a17, .ref a18])), (a9, .inl (cI, 2, .inl (upd (upd (fun _ => 0) 0 16) 1 16))), (a8, .inl (cI, 2, .inl (upd (upd (fun _ => 0) 0 16) 1 16))), (a17, .inr (8, [.ref a19, .ref a20, .ref a21, .ref a22, .ref a23, .ref a24, .ref a25, .int 0])), (a3, .inr (8, [.ref a26, .ref a27, .ref a28, .ref a29, .ref a30, .ref a31, .ref a32, .int 0])), (a5, .inr (0, [.ref a33, .int 1, .int 1, .long 0, .int 1, .int 0, .long 0])), (a4, .inr (4, [.ref a1, .ref a5, .ref a35, .ref a36, .ref a37, .ref a38, .ref a39, .int 100, .int 0, .int 0, .int (-1)])), (a35, .inr (8, [.ref a40, .ref a41, .ref a42, .ref a43, .ref a44, .ref a45, .ref a46, .int 0])), (a36, .inl (cI, 7, .inl (fun _ => 0))), (a33, .inl (cJ, 256, .inr (.inl (vp_updL (fun _ => 0) 0 0))))]) (k_rV hC hN hK hP hD (c79_X1_begin l G cI cJ cB cZ a7) [0] rfl (by decide) mi_X1_begin in_X1_begin se_X1_begin wm_X9_140 1 0 rfl rfl rfl hl.1 rfl rfl (Nat.le_of_ble_eq_true rfl) ⟨(Nat.le_of_ble_eq_true rfl), (Nat.le_of_ble_eq_true rfl)⟩ dX9_debt_21 ⟨(Nat.le_of_ble_eq_true rfl), (Nat.le_of_ble_eq_true rfl)⟩) hP hD hS hA [0] [1, 2, 3, 4, 5, 6, 7, 8, 9, 10, 11, 12] rfl rfl (by decide) (by decide) (fun u3 H locs hp hP hD hS => ?_)
    have hP : va_P G cl [(a18, .inr (3, [.ref a47, .ref a48, .ref a49, .ref a50, .int 0])), (a0, .inr (9, [.ref a1, .ref a2, .ref a3, .int 0, .int 0, .ref a4, .ref a5, .ref a6, .ref a7])), (a1, .inr (7, [.int 100, .int 100, .int 0, .ref a8, .ref a9, .int 0, .ref a10, .ref a11, .ref a12, .ref a13, .ref a14, .ref a15, .ref a16, .ref a17, .ref a18])), (a9, .inl (cI, 2, .inl (upd (upd (fun _ => 0) 0 16) 1 16))), (a8, .inl (cI, 2, .inl (upd (upd (fun _ => 0) 0 16) 1 16))), (a17, .inr (8, [.ref a19, .ref a20, .ref a21, .ref a22, .ref a23, .ref a24, .ref a25, .int 0])), (a3, .inr (8, [.ref a26, .ref a27, .ref a28, .ref a29, .ref a30, .ref a31, .ref a32, .int 0])), (a5, .inr (0, [.ref a33, .int 1, .int 1, .long 0, .int 1, .int 0, .long 0])), (a4, .inr (4, [.ref a1, .ref a5, .ref a35, .ref a36, .ref a37, .ref a38, .ref a39, .int 100, .int 0, .int 0, .int (-1)])), (a35, .inr (8, [.ref a40, .ref a41, .ref a42, .ref a43, .ref a44, .ref a45, .ref a46, .int 0])), (a36, .inl (cI, 7, .inl (fun _ => 0))), (a33, .inl (cJ, 256, .inr (.inl (vp_updL (fun _ => 0) 0 0)))), (a7, .inr (1, [.int 0, .int 0, .int 0, .int 0, .int 0]))] H := hP
    have hD : va_D A [(a18, .inr (3, [.ref a47, .ref a48, .ref a49, .ref a50, .int 0])), (a0, .inr (9, [.ref a1, .ref a2, .ref a3, .int 0, .int 0, .ref a4, .ref a5, .ref a6, .ref a7])), (a1, .inr (7, [.int 100, .int 100, .int 0, .ref a8, .ref a9, .int 0, .ref a10, .ref a11, .ref a12, .ref a13, .ref a14, .ref a15, .ref a16, .ref a17, .ref a18])), (a9, .inl (cI, 2, .inl (upd (upd (fun _ => 0) 0 16) 1 16))), (a8, .inl (cI, 2, .inl (upd (upd (fun _ => 0) 0 16) 1 16))), (a17, .inr (8, [.ref a19, .ref a20, .ref a21, .ref a22, .ref a23, .ref a24, .ref a25, .int 0])), (a3, .inr (8, [.ref a26, .ref a27, .ref a28, .ref a29, .ref a30, .ref a31, .ref a32, .int 0])), (a5, .inr (0, [.ref a33, .int 1, .int 1, .long 0, .int 1, .int 0, .long 0])), (a4, .inr (4, [.ref a1, .ref a5, .ref a35, .ref a36, .ref a37, .ref a38, .ref a39, .int 100, .int 0, .int 0, .int (-1)])), (a35, .inr (8, [.ref a40, .ref a41, .ref a42, .ref a43, .ref a44, .ref a45, .ref a46, .int 0])), (a36, .inl (cI, 7, .inl (fun _ => 0))), (a33, .inl (cJ, 256, .inr (.inl (vp_updL (fun _ => 0) 0 0)))), (a7, .inr (1, [.int 0, .int 0, .int 0, .int 0, .int 0]))] := hD
    refine lv_iconst (v := 0) hx hb dX9_debt_24 (by decide) ?_
    refine lv_istore (lv' := [(5, .int 0), (4, .int 1), (0, .ref a0), (1, .int x0), (2, .int x1), (3, .int x2)]) hx hb dX9_debt_25 hl (by decide) rfl (fun ls hl => ?_)
    refine lv_iload hx hb dX9_debt_27 (lv_at hl 0 rfl) ?_
    refine lv_iload hx hb dX9_debt_29 (lv_at hl 1 rfl) ?_
    refine lv_icmp_ge (tgt := 64) hx hb dX9_debt_31 (by decide) (fun c_ => absurd c_ (by decide +kernel)) (fun _ => ?_)
    refine lv_aload_n hx hb dX9_debt_34 rfl (lv_at hl 2 rfl) ?_
    refine k_get hC hK hP iX9 1 8 wf_X9_61 rfl (by decide) rfl rfl dX9_debt_35 ?_
    refine lv_aload_n hx hb dX9_debt_38 rfl (lv_at hl 2 rfl) ?_
    refine k_get hC hK hP iX9 1 0 wf_X9_10 rfl (by decide) rfl rfl dX9_debt_39 ?_
    refine lv_aload_n hx hb dX9_debt_42 rfl (lv_at hl 2 rfl) ?_
    refine k_get hC hK hP iX9 1 6 wf_X9_50 rfl (by decide) rfl rfl dX9_debt_43 ?_
    refine lv_iload hx hb dX9_debt_46 (lv_at hl 0 rfl) ?_
    refine k_cl (wr := [(a18, .inr (3, [.ref a47, .ref a48, .ref a49, .ref a50, .int 0])), (a0, .inr (9, [.ref a1, .ref a2, .ref a3, .int 0, .int 0, .ref a4, .ref a5, .ref a6, .ref a7])), (a1, .inr (7, [.int 100, .int 100, .int 0, .ref a8, .ref a9, .int 0, .ref a10, .ref a11, .ref a12, .ref a13, .ref a14, .ref a15, .ref a16, .ref a17, .ref a18])), (a9, .inl (cI, 2, .inl (upd (upd (fun _ => 0) 0 16) 1 16))), (a8, .inl (cI, 2, .inl (upd (upd (fun _ => 0) 0 16) 1 16))), (a17, .inr (8, [.ref a19, .ref a20, .ref a21, .ref a22, .ref a23, .ref a24, .ref a25, .int 0])), (a3, .inr (8, [.ref a26, .ref a27, .ref a28, .ref a29, .ref a30, .ref a31, .ref a32, .int 0])), (a4, .inr (4, [.ref a1, .ref a5, .ref a35, .ref a36, .ref a37, .ref a38, .ref a39, .int 100, .int 0, .int 0, .int (-1)])), (a35, .inr (8, [.ref a40, .ref a41, .ref a42, .ref a43, .ref a44, .ref a45, .ref a46, .int 0])), (a36, .inl (cI, 7, .inl (fun _ => 0))), (a7, .inr (1, [.int 0, .int 0, .int 0, .int 0, .int 0]))]) (k_rV hC hN hK hP hD (c68_X0_row l G cI cJ cB cZ a5 a33) [7, 11] rfl (by decide) mi_X0_row in_X0_row se_X0_row wm_X9_132 0 7 rfl rfl rfl hl.1 rfl rfl (Nat.le_of_ble_eq_true rfl) ⟨(Nat.le_of_ble_eq_true rfl), (Nat.le_of_ble_eq_true rfl)⟩ dX9_debt_48 ⟨(Nat.le_of_ble_eq_true rfl), (Nat.le_of_ble_eq_true rfl)⟩) hP hD hS hA [7, 11] [0, 1, 2, 3, 4, 5, 6, 8, 9, 10, 12] rfl rfl (by decide) (by decide) (fun r4 u4 H locs hp hP hD hS => ?_)
    have hP : va_P G cl [(a18, .inr (3, [.ref a47, .ref a48, .ref a49, .ref a50, .int 0])), (a0, .inr (9, [.ref a1, .ref a2, .ref a3, .int 0, .int 0, .ref a4, .ref a5, .ref a6, .ref a7])), (a1, .inr (7, [.int 100, .int 100, .int 0, .ref a8, .ref a9, .int 0, .ref a10, .ref a11, .ref a12, .ref a13, .ref a14, .ref a15, .ref a16, .ref a17, .ref a18])), (a9, .inl (cI, 2, .inl (upd (upd (fun _ => 0) 0 16) 1 16))), (a8, .inl (cI, 2, .inl (upd (upd (fun _ => 0) 0 16) 1 16))), (a17, .inr (8, [.ref a19, .ref a20, .ref a21, .ref a22, .ref a23, .ref a24, .ref a25, .int 0])), (a3, .inr (8, [.ref a26, .ref a27, .ref a28, .ref a29, .ref a30, .ref a31, .ref a32, .int 0])), (a4, .inr (4, [.ref a1, .ref a5, .ref a35, .ref a36, .ref a37, .ref a38, .ref a39, .int 100, .int 0, .int 0, .int (-1)])), (a35, .inr (8, [.ref a40, .ref a41, .ref a42, .ref a43, .ref a44, .ref a45, .ref a46, .int 0])), (a36, .inl (cI, 7, .inl (fun _ => 0))), (a7, .inr (1, [.int 0, .int 0, .int 0, .int 0, .int 0])), (a5, .inr (0, [.ref a33, .int 1, .int 1, .long 0, .int 1, .int 0, .long 0])), (a33, .inl (cJ, 256, .inr (.inl (vp_updL (fun _ => 0) 0 0))))] H := hP
    have hD : va_D A [(a18, .inr (3, [.ref a47, .ref a48, .ref a49, .ref a50, .int 0])), (a0, .inr (9, [.ref a1, .ref a2, .ref a3, .int 0, .int 0, .ref a4, .ref a5, .ref a6, .ref a7])), (a1, .inr (7, [.int 100, .int 100, .int 0, .ref a8, .ref a9, .int 0, .ref a10, .ref a11, .ref a12, .ref a13, .ref a14, .ref a15, .ref a16, .ref a17, .ref a18])), (a9, .inl (cI, 2, .inl (upd (upd (fun _ => 0) 0 16) 1 16))), (a8, .inl (cI, 2, .inl (upd (upd (fun _ => 0) 0 16) 1 16))), (a17, .inr (8, [.ref a19, .ref a20, .ref a21, .ref a22, .ref a23, .ref a24, .ref a25, .int 0])), (a3, .inr (8, [.ref a26, .ref a27, .ref a28, .ref a29, .ref a30, .ref a31, .ref a32, .int 0])), (a4, .inr (4, [.ref a1, .ref a5, .ref a35, .ref a36, .ref a37, .ref a38, .ref a39, .int 100, .int 0, .int 0, .int (-1)])), (a35, .inr (8, [.ref a40, .ref a41, .ref a42, .ref a43, .ref a44, .ref a45, .ref a46, .int 0])), (a36, .inl (cI, 7, .inl (fun _ => 0))), (a7, .inr (1, [.int 0, .int 0, .int 0, .int 0, .int 0])), (a5, .inr (0, [.ref a33, .int 1, .int 1, .long 0, .int 1, .int 0, .long 0])), (a33, .inl (cJ, 256, .inr (.inl (vp_updL (fun _ => 0) 0 0))))] := hD
    subst hp
    refine lv_iload_n hx hb dX9_debt_51 rfl (lv_at hl 3 rfl) ?_
    refine k_ci (wr := [(a0, .inr (9, [.ref a1, .ref a2, .ref a3, .int 0, .int 0, .ref a4, .ref a5, .ref a6, .ref a7])), (a9, .inl (cI, 2, .inl (upd (upd (fun _ => 0) 0 16) 1 16))), (a8, .inl (cI, 2, .inl (upd (upd (fun _ => 0) 0 16) 1 16))), (a17, .inr (8, [.ref a19, .ref a20, .ref a21, .ref a22, .ref a23, .ref a24, .ref a25, .int 0])), (a3, .inr (8, [.ref a26, .ref a27, .ref a28, .ref a29, .ref a30, .ref a31, .ref a32, .int 0])), (a4, .inr (4, [.ref a1, .ref a5, .ref a35, .ref a36, .ref a37, .ref a38, .ref a39, .int 100, .int 0, .int 0, .int (-1)])), (a35, .inr (8, [.ref a40, .ref a41, .ref a42, .ref a43, .ref a44, .ref a45, .ref a46, .int 0])), (a36, .inl (cI, 7, .inl (fun _ => 0))), (a7, .inr (1, [.int 0, .int 0, .int 0, .int 0, .int 0])), (a5, .inr (0, [.ref a33, .int 1, .int 1, .long 0, .int 1, .int 0, .long 0])), (a33, .inl (cJ, 256, .inr (.inl (vp_updL (fun _ => 0) 0 0))))]) (k_rV hC hN hK hP hD (c106_X7_owedBy l G cI cJ cB cZ a1 a8 a9 a10 a11 a12 a13 a14 a15 a16 a17 a18 a47 a48 a49 a50 x0) [2, 0] rfl (by decide) mi_X7_owedBy in_X7_owedBy se_X7_owedBy wm_X9_225 7 2 rfl rfl rfl hl.1 rfl rfl (Nat.le_of_ble_eq_true rfl) ⟨(Nat.le_of_ble_eq_true rfl), (Nat.le_of_ble_eq_true rfl)⟩ dX9_debt_52 ⟨(Nat.le_of_ble_eq_true rfl), (Nat.le_of_ble_eq_true rfl)⟩) hP hD hS hA [2, 0] [1, 3, 4, 5, 6, 7, 8, 9, 10, 11, 12] rfl rfl (by decide) (by decide) (fun r5 u5 H locs hp hP hD hS => ?_)
    have hP : va_P G cl [(a0, .inr (9, [.ref a1, .ref a2, .ref a3, .int 0, .int 0, .ref a4, .ref a5, .ref a6, .ref a7])), (a9, .inl (cI, 2, .inl (upd (upd (fun _ => 0) 0 16) 1 16))), (a8, .inl (cI, 2, .inl (upd (upd (fun _ => 0) 0 16) 1 16))), (a17, .inr (8, [.ref a19, .ref a20, .ref a21, .ref a22, .ref a23, .ref a24, .ref a25, .int 0])), (a3, .inr (8, [.ref a26, .ref a27, .ref a28, .ref a29, .ref a30, .ref a31, .ref a32, .int 0])), (a4, .inr (4, [.ref a1, .ref a5, .ref a35, .ref a36, .ref a37, .ref a38, .ref a39, .int 100, .int 0, .int 0, .int (-1)])), (a35, .inr (8, [.ref a40, .ref a41, .ref a42, .ref a43, .ref a44, .ref a45, .ref a46, .int 0])), (a36, .inl (cI, 7, .inl (fun _ => 0))), (a7, .inr (1, [.int 0, .int 0, .int 0, .int 0, .int 0])), (a5, .inr (0, [.ref a33, .int 1, .int 1, .long 0, .int 1, .int 0, .long 0])), (a33, .inl (cJ, 256, .inr (.inl (vp_updL (fun _ => 0) 0 0)))), (a1, .inr (7, [.int 100, .int 100, .int 0, .ref a8, .ref a9, .int 0, .ref a10, .ref a11, .ref a12, .ref a13, .ref a14, .ref a15, .ref a16, .ref a17, .ref a18])), (a18, .inr (3, [.ref a47, .ref a48, .ref a49, .ref a50, .int 0]))] H := hP
    have hD : va_D A [(a0, .inr (9, [.ref a1, .ref a2, .ref a3, .int 0, .int 0, .ref a4, .ref a5, .ref a6, .ref a7])), (a9, .inl (cI, 2, .inl (upd (upd (fun _ => 0) 0 16) 1 16))), (a8, .inl (cI, 2, .inl (upd (upd (fun _ => 0) 0 16) 1 16))), (a17, .inr (8, [.ref a19, .ref a20, .ref a21, .ref a22, .ref a23, .ref a24, .ref a25, .int 0])), (a3, .inr (8, [.ref a26, .ref a27, .ref a28, .ref a29, .ref a30, .ref a31, .ref a32, .int 0])), (a4, .inr (4, [.ref a1, .ref a5, .ref a35, .ref a36, .ref a37, .ref a38, .ref a39, .int 100, .int 0, .int 0, .int (-1)])), (a35, .inr (8, [.ref a40, .ref a41, .ref a42, .ref a43, .ref a44, .ref a45, .ref a46, .int 0])), (a36, .inl (cI, 7, .inl (fun _ => 0))), (a7, .inr (1, [.int 0, .int 0, .int 0, .int 0, .int 0])), (a5, .inr (0, [.ref a33, .int 1, .int 1, .long 0, .int 1, .int 0, .long 0])), (a33, .inl (cJ, 256, .inr (.inl (vp_updL (fun _ => 0) 0 0)))), (a1, .inr (7, [.int 100, .int 100, .int 0, .ref a8, .ref a9, .int 0, .ref a10, .ref a11, .ref a12, .ref a13, .ref a14, .ref a15, .ref a16, .ref a17, .ref a18])), (a18, .inr (3, [.ref a47, .ref a48, .ref a49, .ref a50, .int 0]))] := hD
    subst hp
    refine k_cv (wr := [(a0, .inr (9, [.ref a1, .ref a2, .ref a3, .int 0, .int 0, .ref a4, .ref a5, .ref a6, .ref a7])), (a9, .inl (cI, 2, .inl (upd (upd (fun _ => 0) 0 16) 1 16))), (a8, .inl (cI, 2, .inl (upd (upd (fun _ => 0) 0 16) 1 16))), (a17, .inr (8, [.ref a19, .ref a20, .ref a21, .ref a22, .ref a23, .ref a24, .ref a25, .int 0])), (a3, .inr (8, [.ref a26, .ref a27, .ref a28, .ref a29, .ref a30, .ref a31, .ref a32, .int 0])), (a4, .inr (4, [.ref a1, .ref a5, .ref a35, .ref a36, .ref a37, .ref a38, .ref a39, .int 100, .int 0, .int 0, .int (-1)])), (a35, .inr (8, [.ref a40, .ref a41, .ref a42, .ref a43, .ref a44, .ref a45, .ref a46, .int 0])), (a36, .inl (cI, 7, .inl (fun _ => 0))), (a5, .inr (0, [.ref a33, .int 1, .int 1, .long 0, .int 1, .int 0, .long 0])), (a33, .inl (cJ, 256, .inr (.inl (vp_updL (fun _ => 0) 0 0)))), (a1, .inr (7, [.int 100, .int 100, .int 0, .ref a8, .ref a9, .int 0, .ref a10, .ref a11, .ref a12, .ref a13, .ref a14, .ref a15, .ref a16, .ref a17, .ref a18])), (a18, .inr (3, [.ref a47, .ref a48, .ref a49, .ref a50, .int 0]))]) (k_rV hC hN hK hP hD (c107_X1_take l G cI cJ cB cZ a7) [8] rfl (by decide) mi_X1_take in_X1_take se_X1_take wm_X9_143 1 8 rfl rfl rfl hl.1 rfl rfl (Nat.le_of_ble_eq_true rfl) ⟨(Nat.le_of_ble_eq_true rfl), (Nat.le_of_ble_eq_true rfl)⟩ dX9_debt_55 ⟨(Nat.le_of_ble_eq_true rfl), (Nat.le_of_ble_eq_true rfl)⟩) hP hD hS hA [8] [0, 1, 2, 3, 4, 5, 6, 7, 9, 10, 11, 12] rfl rfl (by decide) (by decide) (fun u6 H locs hp hP hD hS => ?_)
    have hP : va_P G cl [(a0, .inr (9, [.ref a1, .ref a2, .ref a3, .int 0, .int 0, .ref a4, .ref a5, .ref a6, .ref a7])), (a9, .inl (cI, 2, .inl (upd (upd (fun _ => 0) 0 16) 1 16))), (a8, .inl (cI, 2, .inl (upd (upd (fun _ => 0) 0 16) 1 16))), (a17, .inr (8, [.ref a19, .ref a20, .ref a21, .ref a22, .ref a23, .ref a24, .ref a25, .int 0])), (a3, .inr (8, [.ref a26, .ref a27, .ref a28, .ref a29, .ref a30, .ref a31, .ref a32, .int 0])), (a4, .inr (4, [.ref a1, .ref a5, .ref a35, .ref a36, .ref a37, .ref a38, .ref a39, .int 100, .int 0, .int 0, .int (-1)])), (a35, .inr (8, [.ref a40, .ref a41, .ref a42, .ref a43, .ref a44, .ref a45, .ref a46, .int 0])), (a36, .inl (cI, 7, .inl (fun _ => 0))), (a5, .inr (0, [.ref a33, .int 1, .int 1, .long 0, .int 1, .int 0, .long 0])), (a33, .inl (cJ, 256, .inr (.inl (vp_updL (fun _ => 0) 0 0)))), (a1, .inr (7, [.int 100, .int 100, .int 0, .ref a8, .ref a9, .int 0, .ref a10, .ref a11, .ref a12, .ref a13, .ref a14, .ref a15, .ref a16, .ref a17, .ref a18])), (a18, .inr (3, [.ref a47, .ref a48, .ref a49, .ref a50, .int 0])), (a7, .inr (1, [.int 1, .int 0, .int 0, .int 0, .int 0]))] H := hP
    have hD : va_D A [(a0, .inr (9, [.ref a1, .ref a2, .ref a3, .int 0, .int 0, .ref a4, .ref a5, .ref a6, .ref a7])), (a9, .inl (cI, 2, .inl (upd (upd (fun _ => 0) 0 16) 1 16))), (a8, .inl (cI, 2, .inl (upd (upd (fun _ => 0) 0 16) 1 16))), (a17, .inr (8, [.ref a19, .ref a20, .ref a21, .ref a22, .ref a23, .ref a24, .ref a25, .int 0])), (a3, .inr (8, [.ref a26, .ref a27, .ref a28, .ref a29, .ref a30, .ref a31, .ref a32, .int 0])), (a4, .inr (4, [.ref a1, .ref a5, .ref a35, .ref a36, .ref a37, .ref a38, .ref a39, .int 100, .int 0, .int 0, .int (-1)])), (a35, .inr (8, [.ref a40, .ref a41, .ref a42, .ref a43, .ref a44, .ref a45, .ref a46, .int 0])), (a36, .inl (cI, 7, .inl (fun _ => 0))), (a5, .inr (0, [.ref a33, .int 1, .int 1, .long 0, .int 1, .int 0, .long 0])), (a33, .inl (cJ, 256, .inr (.inl (vp_updL (fun _ => 0) 0 0)))), (a1, .inr (7, [.int 100, .int 100, .int 0, .ref a8, .ref a9, .int 0, .ref a10, .ref a11, .ref a12, .ref a13, .ref a14, .ref a15, .ref a16, .ref a17, .ref a18])), (a18, .inr (3, [.ref a47, .ref a48, .ref a49, .ref a50, .int 0])), (a7, .inr (1, [.int 1, .int 0, .int 0, .int 0, .int 0]))] := hD
    refine lv_iinc (v := 1) (lv' := [(5, .int 1), (4, .int 1), (0, .ref a0), (1, .int x0), (2, .int x1), (3, .int x2)]) hx hb dX9_debt_58 hl (k := 0) rfl (by decide +kernel) (by decide) rfl (fun ls hl => ?_)
    refine lv_goto (tgt := 27) hx hb dX9_debt_61 (by decide) ?_
    refine lv_iload hx hb dX9_debt_27 (lv_at hl 0 rfl) ?_
    refine lv_iload hx hb dX9_debt_29 (lv_at hl 1 rfl) ?_
    refine lv_icmp_ge (tgt := 64) hx hb dX9_debt_31 (by decide) (fun _ => ?_) (fun c_ => absurd (by decide +kernel) c_)
    refine lv_iload hx hb dX9_debt_64 (lv_at hl 1 rfl) ?_
    refine lv_if_le (tgt := 80) hx hb dX9_debt_66 (by decide) (fun c_ => absurd c_ (by decide +kernel)) (fun _ => ?_)
    refine lv_aload_n hx hb dX9_debt_69 rfl (lv_at hl 2 rfl) ?_
    refine k_get hC hK hP iX9 0 8 wf_X9_61 rfl (by decide) rfl rfl dX9_debt_70 ?_
    refine lv_iload_n hx hb dX9_debt_73 rfl (lv_at hl 4 rfl) ?_
    refine k_ci (wr := [(a0, .inr (9, [.ref a1, .ref a2, .ref a3, .int 0, .int 0, .ref a4, .ref a5, .ref a6, .ref a7])), (a9, .inl (cI, 2, .inl (upd (upd (fun _ => 0) 0 16) 1 16))), (a8, .inl (cI, 2, .inl (upd (upd (fun _ => 0) 0 16) 1 16))), (a17, .inr (8, [.ref a19, .ref a20, .ref a21, .ref a22, .ref a23, .ref a24, .ref a25, .int 0])), (a3, .inr (8, [.ref a26, .ref a27, .ref a28, .ref a29, .ref a30, .ref a31, .ref a32, .int 0])), (a4, .inr (4, [.ref a1, .ref a5, .ref a35, .ref a36, .ref a37, .ref a38, .ref a39, .int 100, .int 0, .int 0, .int (-1)])), (a35, .inr (8, [.ref a40, .ref a41, .ref a42, .ref a43, .ref a44, .ref a45, .ref a46, .int 0])), (a36, .inl (cI, 7, .inl (fun _ => 0))), (a5, .inr (0, [.ref a33, .int 1, .int 1, .long 0, .int 1, .int 0, .long 0])), (a33, .inl (cJ, 256, .inr (.inl (vp_updL (fun _ => 0) 0 0)))), (a1, .inr (7, [.int 100, .int 100, .int 0, .ref a8, .ref a9, .int 0, .ref a10, .ref a11, .ref a12, .ref a13, .ref a14, .ref a15, .ref a16, .ref a17, .ref a18])), (a18, .inr (3, [.ref a47, .ref a48, .ref a49, .ref a50, .int 0]))]) (k_rV hC hN hK hP hD (c108_X1_edge l G cI cJ cB cZ a7 x1) [12] rfl (by decide) mi_X1_edge in_X1_edge se_X1_edge wm_X9_222 1 12 rfl rfl rfl hl.1 rfl rfl (Nat.le_of_ble_eq_true rfl) ⟨(Nat.le_of_ble_eq_true rfl), (Nat.le_of_ble_eq_true rfl)⟩ dX9_debt_74 ⟨(Nat.le_of_ble_eq_true rfl), (Nat.le_of_ble_eq_true rfl)⟩) hP hD hS hA [12] [0, 1, 2, 3, 4, 5, 6, 7, 8, 9, 10, 11] rfl rfl (by decide) (by decide) (fun r7 u7 H locs hp hP hD hS => ?_)
    have hP : va_P G cl [(a0, .inr (9, [.ref a1, .ref a2, .ref a3, .int 0, .int 0, .ref a4, .ref a5, .ref a6, .ref a7])), (a9, .inl (cI, 2, .inl (upd (upd (fun _ => 0) 0 16) 1 16))), (a8, .inl (cI, 2, .inl (upd (upd (fun _ => 0) 0 16) 1 16))), (a17, .inr (8, [.ref a19, .ref a20, .ref a21, .ref a22, .ref a23, .ref a24, .ref a25, .int 0])), (a3, .inr (8, [.ref a26, .ref a27, .ref a28, .ref a29, .ref a30, .ref a31, .ref a32, .int 0])), (a4, .inr (4, [.ref a1, .ref a5, .ref a35, .ref a36, .ref a37, .ref a38, .ref a39, .int 100, .int 0, .int 0, .int (-1)])), (a35, .inr (8, [.ref a40, .ref a41, .ref a42, .ref a43, .ref a44, .ref a45, .ref a46, .int 0])), (a36, .inl (cI, 7, .inl (fun _ => 0))), (a5, .inr (0, [.ref a33, .int 1, .int 1, .long 0, .int 1, .int 0, .long 0])), (a33, .inl (cJ, 256, .inr (.inl (vp_updL (fun _ => 0) 0 0)))), (a1, .inr (7, [.int 100, .int 100, .int 0, .ref a8, .ref a9, .int 0, .ref a10, .ref a11, .ref a12, .ref a13, .ref a14, .ref a15, .ref a16, .ref a17, .ref a18])), (a18, .inr (3, [.ref a47, .ref a48, .ref a49, .ref a50, .int 0])), (a7, .inr (1, [.int 1, .int 0, .int 0, .int 0, .int 0]))] H := hP
    have hD : va_D A [(a0, .inr (9, [.ref a1, .ref a2, .ref a3, .int 0, .int 0, .ref a4, .ref a5, .ref a6, .ref a7])), (a9, .inl (cI, 2, .inl (upd (upd (fun _ => 0) 0 16) 1 16))), (a8, .inl (cI, 2, .inl (upd (upd (fun _ => 0) 0 16) 1 16))), (a17, .inr (8, [.ref a19, .ref a20, .ref a21, .ref a22, .ref a23, .ref a24, .ref a25, .int 0])), (a3, .inr (8, [.ref a26, .ref a27, .ref a28, .ref a29, .ref a30, .ref a31, .ref a32, .int 0])), (a4, .inr (4, [.ref a1, .ref a5, .ref a35, .ref a36, .ref a37, .ref a38, .ref a39, .int 100, .int 0, .int 0, .int (-1)])), (a35, .inr (8, [.ref a40, .ref a41, .ref a42, .ref a43, .ref a44, .ref a45, .ref a46, .int 0])), (a36, .inl (cI, 7, .inl (fun _ => 0))), (a5, .inr (0, [.ref a33, .int 1, .int 1, .long 0, .int 1, .int 0, .long 0])), (a33, .inl (cJ, 256, .inr (.inl (vp_updL (fun _ => 0) 0 0)))), (a1, .inr (7, [.int 100, .int 100, .int 0, .ref a8, .ref a9, .int 0, .ref a10, .ref a11, .ref a12, .ref a13, .ref a14, .ref a15, .ref a16, .ref a17, .ref a18])), (a18, .inr (3, [.ref a47, .ref a48, .ref a49, .ref a50, .int 0])), (a7, .inr (1, [.int 1, .int 0, .int 0, .int 0, .int 0]))] := hD
    subst hp
    refine lv_goto (tgt := 82) hx hb dX9_debt_77 (by decide) ?_
    exact k_iret hC hr hlk hK hP hD hS () [] rfl (by decide) (by first | decide | (unfold sp_debt; rw [if_neg (by omega)]) | (unfold sp_debt; rw [if_pos (by omega)])) (Nat.le_of_ble_eq_true rfl) (Nat.le_of_ble_eq_true rfl) dX9_debt_82
  · skip
    refine lv_if_ne (tgt := 10) hx hb dX9_debt_4 (by decide) (fun c_ => absurd (by decide +kernel) c_) (fun _ => ?_)
    refine lv_ldc (v := (-2000000000)) hx hb hown (hts _ kc_X9_218) dX9_debt_7 ?_
    exact k_iret hC hr hlk hK hP hD hS () [] rfl (by decide) (by first | decide | (unfold sp_debt; rw [if_neg (by omega)]) | (unfold sp_debt; rw [if_pos (by omega)])) (Nat.le_of_ble_eq_true rfl) (Nat.le_of_ble_eq_true rfl) dX9_debt_9
theorem dX9_thousandths_0 : decode cX9_thousandths 0 = .ok (.iload_n 1, 1) := by decide +kernel
theorem dX9_thousandths_1 : decode cX9_thousandths 1 = .ok (.ifCond .le 13, 3) := by decide +kernel
theorem dX9_thousandths_4 : decode cX9_thousandths 4 = .ok (.iload_n 0, 1) := by decide +kernel
theorem dX9_thousandths_5 : decode cX9_thousandths 5 = .ok (.sipush 1000, 3) := by decide +kernel
theorem dX9_thousandths_8 : decode cX9_thousandths 8 = .ok (.imul, 1) := by decide +kernel
theorem dX9_thousandths_9 : decode cX9_thousandths 9 = .ok (.iload_n 1, 1) := by decide +kernel
theorem dX9_thousandths_10 : decode cX9_thousandths 10 = .ok (.idiv, 1) := by decide +kernel
theorem dX9_thousandths_11 : decode cX9_thousandths 11 = .ok (.goto 4, 3) := by decide +kernel
theorem dX9_thousandths_15 : decode cX9_thousandths 15 = .ok (.ireturn, 1) := by decide +kernel
set_option maxHeartbeats 4000000 in
set_option maxRecDepth 100000 in
theorem c110_X9_thousandths (l : Launch) (G : va_G) (cI cJ cB cZ : ClassId) : Con l G (TY cI cJ cB cZ) yX9_thousandths cX9_thousandths 2 (some .int) ({ frames := 0, cells := 0, slots := 0, locals := 0 } : Room) [.int 16, .int 16] [] (QI G (TY cI cJ cB cZ) (fun (r : Int32) (u : Unit) => r = 1000) (fun u : Unit => [])) := by
  refine k_met (by decide) (Nat.le_of_ble_eq_true rfl) ?_
  intro p e s m below meth c A ls hC hr hlk hnm hN hK hA hP hD hS hl
  have hl : lv_has ls 2 [(0, .int 16), (1, .int 16)] := hl
  obtain ⟨hx, hb, hml, hown, hts⟩ := id hC
  refine lv_iload_n hx hb dX9_thousandths_0 rfl (lv_at hl 1 rfl) ?_
  refine lv_if_le (tgt := 14) hx hb dX9_thousandths_1 (by decide) (fun c_ => absurd c_ (by decide +kernel)) (fun _ => ?_)
  refine lv_iload_n hx hb dX9_thousandths_4 rfl (lv_at hl 0 rfl) ?_
  refine lv_sipush (v := 1000) hx hb dX9_thousandths_5 (by decide) ?_
  refine lv_imul hx hb dX9_thousandths_8 ?_
  refine k_i 16000 (by decide +kernel) ?_
  refine lv_iload_n hx hb dX9_thousandths_9 rfl (lv_at hl 1 rfl) ?_
  refine lv_idiv hx hb dX9_thousandths_10 (by decide) ?_
  refine k_i 1000 (by decide +kernel) ?_
  refine lv_goto (tgt := 15) hx hb dX9_thousandths_11 (by decide) ?_
  exact k_iret hC hr hlk hK hP hD hS () [] rfl (by decide) rfl (Nat.le_of_ble_eq_true rfl) (Nat.le_of_ble_eq_true rfl) dX9_thousandths_15
set_option maxHeartbeats 4000000 in
set_option maxRecDepth 100000 in
theorem c111_X1_take (l : Launch) (G : va_G) (cI cJ cB cZ : ClassId) (a0 : Nat) : Con l G (TY cI cJ cB cZ) yX1_take cX1_take 2 none ({ frames := 0, cells := 0, slots := 0, locals := 0 } : Room) [.ref a0, .int 1000] [(a0, .inr (1, [.int 0, .int 0, .int 0, .int 0, .int 0]))] (QV G (TY cI cJ cB cZ) (fun u : Unit => True) (fun u : Unit => [(a0, .inr (1, [.int 1, .int 1000, .int 1000, .int 0, .int 0]))])) := by
  refine k_met (by decide) (Nat.le_of_ble_eq_true rfl) ?_
  intro p e s m below meth c A ls hC hr hlk hnm hN hK hA hP hD hS hl
  have hl : lv_has ls 2 [(0, .ref a0), (1, .int 1000)] := hl
  obtain ⟨hx, hb, hml, hown, hts⟩ := id hC
  refine lv_aload_n hx hb dX1_take_0 rfl (lv_at hl 0 rfl) ?_
  refine k_get hC hK hP iX1 0 0 wf_X1_9 rfl (by decide) rfl rfl dX1_take_1 ?_
  refine lv_if_eq (tgt := 15) hx hb dX1_take_4 (by decide) (fun _ => ?_) (fun c_ => absurd (by decide +kernel) c_)
  refine lv_aload_n hx hb dX1_take_15 rfl (lv_at hl 0 rfl) ?_
  refine lv_iload_n hx hb dX1_take_16 rfl (lv_at hl 1 rfl) ?_
  refine k_put hC hK hP hD hS iX1 tyX1_ok nmX1 0 1 wf_X1_15 rfl (by decide) rfl rfl rfl rfl (Nat.le_of_ble_eq_true rfl) dX1_take_17 (fun H locs hP hD hS => ?_)
  have hP : va_P G cl [(a0, .inr (1, [.int 0, .int 1000, .int 0, .int 0, .int 0]))] H := hP
  have hD : va_D A [(a0, .inr (1, [.int 0, .int 1000, .int 0, .int 0, .int 0]))] := hD
  refine lv_aload_n hx hb dX1_take_20 rfl (lv_at hl 0 rfl) ?_
  refine k_get hC hK hP iX1 0 0 wf_X1_9 rfl (by decide) rfl rfl dX1_take_21 ?_
  refine lv_if_eq (tgt := 35) hx hb dX1_take_24 (by decide) (fun _ => ?_) (fun c_ => absurd (by decide +kernel) c_)
  refine lv_aload_n hx hb dX1_take_35 rfl (lv_at hl 0 rfl) ?_
  refine lv_iload_n hx hb dX1_take_36 rfl (lv_at hl 1 rfl) ?_
  refine k_put hC hK hP hD hS iX1 tyX1_ok nmX1 0 2 wf_X1_19 rfl (by decide) rfl rfl rfl rfl (Nat.le_of_ble_eq_true rfl) dX1_take_37 (fun H locs hP hD hS => ?_)
  have hP : va_P G cl [(a0, .inr (1, [.int 0, .int 1000, .int 1000, .int 0, .int 0]))] H := hP
  have hD : va_D A [(a0, .inr (1, [.int 0, .int 1000, .int 1000, .int 0, .int 0]))] := hD
  refine lv_aload_n hx hb dX1_take_40 rfl (lv_at hl 0 rfl) ?_
  refine lv_iconst (v := 1) hx hb dX1_take_41 (by decide) ?_
  refine k_put hC hK hP hD hS iX1 tyX1_ok nmX1 0 0 wf_X1_9 rfl (by decide) rfl rfl rfl rfl (Nat.le_of_ble_eq_true rfl) dX1_take_42 (fun H locs hP hD hS => ?_)
  have hP : va_P G cl [(a0, .inr (1, [.int 1, .int 1000, .int 1000, .int 0, .int 0]))] H := hP
  have hD : va_D A [(a0, .inr (1, [.int 1, .int 1000, .int 1000, .int 0, .int 0]))] := hD
  exact k_vret hC hr hlk hK hP hD hS () [0] rfl (by decide) trivial (Nat.le_of_ble_eq_true rfl) (Nat.le_of_ble_eq_true rfl) dX1_take_45
set_option maxHeartbeats 4000000 in
set_option maxRecDepth 100000 in
theorem c112_X1_edge (l : Launch) (G : va_G) (cI cJ cB cZ : ClassId) (a0 : Nat) (x0 : Int32) : Con l G (TY cI cJ cB cZ) yX1_edge cX1_edge 2 (some .int) ({ frames := 0, cells := 0, slots := 0, locals := 0 } : Room) [.ref a0, .int x0] [(a0, .inr (1, [.int 1, .int 1000, .int 1000, .int 0, .int 0]))] (QI G (TY cI cJ cB cZ) (fun (r : Int32) (u : Unit) => r = 1000) (fun u : Unit => [(a0, .inr (1, [.int 1, .int 1000, .int 1000, .int 0, .int 0]))])) := by
  refine k_met (by decide) (Nat.le_of_ble_eq_true rfl) ?_
  intro p e s m below meth c A ls hC hr hlk hnm hN hK hA hP hD hS hl
  have hl : lv_has ls 2 [(0, .ref a0), (1, .int x0)] := hl
  obtain ⟨hx, hb, hml, hown, hts⟩ := id hC
  refine lv_aload_n hx hb dX1_edge_0 rfl (lv_at hl 0 rfl) ?_
  refine k_get hC hK hP iX1 0 0 wf_X1_9 rfl (by decide) rfl rfl dX1_edge_1 ?_
  refine lv_if_ne (tgt := 9) hx hb dX1_edge_4 (by decide) (fun _ => ?_) (fun c_ => absurd c_ (by decide +kernel))
  refine lv_iload_n hx hb dX1_edge_9 rfl (lv_at hl 1 rfl) ?_
  refine lv_if_eq (tgt := 20) hx hb dX1_edge_10 (by decide) (fun c_1 => ?_) (fun c_1 => ?_)
  · have d_1 : x0.toInt = 0 := (fa_eq _ _).mp c_1
    obtain rfl : x0 = 0 := (fa_eq _ _).mpr (show x0.toInt = 0 by omega)
    refine lv_aload_n hx hb dX1_edge_20 rfl (lv_at hl 0 rfl) ?_
    refine k_get hC hK hP iX1 0 1 wf_X1_15 rfl (by decide) rfl rfl dX1_edge_21 ?_
    exact k_iret hC hr hlk hK hP hD hS () [0] rfl (by decide) rfl (Nat.le_of_ble_eq_true rfl) (Nat.le_of_ble_eq_true rfl) dX1_edge_24
  · have d_1 : x0.toInt ≠ 0 := fa_ne c_1
    refine lv_aload_n hx hb dX1_edge_13 rfl (lv_at hl 0 rfl) ?_
    refine k_get hC hK hP iX1 0 2 wf_X1_19 rfl (by decide) rfl rfl dX1_edge_14 ?_
    refine lv_goto (tgt := 24) hx hb dX1_edge_17 (by decide) ?_
    exact k_iret hC hr hlk hK hP hD hS () [0] rfl (by decide) rfl (Nat.le_of_ble_eq_true rfl) (Nat.le_of_ble_eq_true rfl) dX1_edge_24
set_option maxHeartbeats 4000000 in
set_option maxRecDepth 100000 in
theorem c113_X9_edge (l : Launch) (G : va_G) (cI cJ cB cZ : ClassId) (a0 a1 a2 a3 a4 a5 a6 a7 : Nat) (x0 : Int32) : Con l G (TY cI cJ cB cZ) yX9_edge cX9_edge 3 (some .int) ({ frames := 1, cells := 0, slots := 0, locals := 21 } : Room) [.ref a0, .int 1, .int x0] [(a0, .inr (9, [.ref a1, .ref a2, .ref a3, .int 0, .int 0, .ref a4, .ref a5, .ref a6, .ref a7])), (a7, .inr (1, [.int 1, .int 1000, .int 1000, .int 0, .int 0]))] (QI G (TY cI cJ cB cZ) (fun (r : Int32) (u : Unit) => r = 1000) (fun u : Unit => [(a0, .inr (9, [.ref a1, .ref a2, .ref a3, .int 0, .int 0, .ref a4, .ref a5, .ref a6, .ref a7])), (a7, .inr (1, [.int 1, .int 1000, .int 1000, .int 0, .int 0]))])) := by
  refine k_met (by decide) (Nat.le_of_ble_eq_true rfl) ?_
  intro p e s m below meth c A ls hC hr hlk hnm hN hK hA hP hD hS hl
  have hl : lv_has ls 3 [(0, .ref a0), (1, .int 1), (2, .int x0)] := hl
  obtain ⟨hx, hb, hml, hown, hts⟩ := id hC
  refine lv_iload_n hx hb dX9_edge_0 rfl (lv_at hl 1 rfl) ?_
  refine lv_if_le (tgt := 15) hx hb dX9_edge_1 (by decide) (fun c_ => absurd c_ (by decide +kernel)) (fun _ => ?_)
  refine lv_aload_n hx hb dX9_edge_4 rfl (lv_at hl 0 rfl) ?_
  refine k_get hC hK hP iX9 0 8 wf_X9_61 rfl (by decide) rfl rfl dX9_edge_5 ?_
  refine lv_iload_n hx hb dX9_edge_8 rfl (lv_at hl 2 rfl) ?_
  refine k_ci (wr := [(a0, .inr (9, [.ref a1, .ref a2, .ref a3, .int 0, .int 0, .ref a4, .ref a5, .ref a6, .ref a7]))]) (k_rV hC hN hK hP hD (c112_X1_edge l G cI cJ cB cZ a7 x0) [1] rfl (by decide) mi_X1_edge in_X1_edge se_X1_edge wm_X9_222 1 1 rfl rfl rfl hl.1 rfl rfl (Nat.le_of_ble_eq_true rfl) ⟨(Nat.le_of_ble_eq_true rfl), (Nat.le_of_ble_eq_true rfl)⟩ dX9_edge_9 ⟨(Nat.le_of_ble_eq_true rfl), (Nat.le_of_ble_eq_true rfl)⟩) hP hD hS hA [1] [0] rfl rfl (by decide) (by decide) (fun r1 u1 H locs hp hP hD hS => ?_)
  have hP : va_P G cl [(a0, .inr (9, [.ref a1, .ref a2, .ref a3, .int 0, .int 0, .ref a4, .ref a5, .ref a6, .ref a7])), (a7, .inr (1, [.int 1, .int 1000, .int 1000, .int 0, .int 0]))] H := hP
  have hD : va_D A [(a0, .inr (9, [.ref a1, .ref a2, .ref a3, .int 0, .int 0, .ref a4, .ref a5, .ref a6, .ref a7])), (a7, .inr (1, [.int 1, .int 1000, .int 1000, .int 0, .int 0]))] := hD
  subst hp
  refine lv_goto (tgt := 19) hx hb dX9_edge_12 (by decide) ?_
  exact k_iret hC hr hlk hK hP hD hS () [0, 1] rfl (by decide) rfl (Nat.le_of_ble_eq_true rfl) (Nat.le_of_ble_eq_true rfl) dX9_edge_19
theorem dX9_joined_0 : decode cX9_joined 0 = .ok (.aload_n 0, 1) := by decide +kernel
theorem dX9_joined_1 : decode cX9_joined 1 = .ok (.iload_n 2, 1) := by decide +kernel
theorem dX9_joined_2 : decode cX9_joined 2 = .ok (.invokevirtual 125, 3) := by decide +kernel
theorem dX9_joined_5 : decode cX9_joined 5 = .ok (.istore_n 3, 1) := by decide +kernel
theorem dX9_joined_6 : decode cX9_joined 6 = .ok (.aload_n 0, 1) := by decide +kernel
theorem dX9_joined_7 : decode cX9_joined 7 = .ok (.getfield 61, 3) := by decide +kernel
theorem dX9_joined_10 : decode cX9_joined 10 = .ok (.invokevirtual 140, 3) := by decide +kernel
theorem dX9_joined_13 : decode cX9_joined 13 = .ok (.iconst 0, 1) := by decide +kernel
theorem dX9_joined_14 : decode cX9_joined 14 = .ok (.istore 4, 2) := by decide +kernel
theorem dX9_joined_16 : decode cX9_joined 16 = .ok (.iload 4, 2) := by decide +kernel
theorem dX9_joined_18 : decode cX9_joined 18 = .ok (.iload_n 3, 1) := by decide +kernel
theorem dX9_joined_19 : decode cX9_joined 19 = .ok (.if_icmp .ge 50, 3) := by decide +kernel
theorem dX9_joined_22 : decode cX9_joined 22 = .ok (.aload_n 0, 1) := by decide +kernel
theorem dX9_joined_23 : decode cX9_joined 23 = .ok (.getfield 50, 3) := by decide +kernel
theorem dX9_joined_26 : decode cX9_joined 26 = .ok (.iload 4, 2) := by decide +kernel
theorem dX9_joined_28 : decode cX9_joined 28 = .ok (.invokevirtual 132, 3) := by decide +kernel
theorem dX9_joined_31 : decode cX9_joined 31 = .ok (.lstore 5, 2) := by decide +kernel
theorem dX9_joined_33 : decode cX9_joined 33 = .ok (.aload_n 0, 1) := by decide +kernel
theorem dX9_joined_34 : decode cX9_joined 34 = .ok (.getfield 61, 3) := by decide +kernel
theorem dX9_joined_37 : decode cX9_joined 37 = .ok (.aload_n 0, 1) := by decide +kernel
theorem dX9_joined_38 : decode cX9_joined 38 = .ok (.getfield 10, 3) := by decide +kernel
theorem dX9_joined_41 : decode cX9_joined 41 = .ok (.lload 5, 2) := by decide +kernel
theorem dX9_joined_43 : decode cX9_joined 43 = .ok (.iconst 0, 1) := by decide +kernel
theorem dX9_joined_44 : decode cX9_joined 44 = .ok (.invokevirtual 228, 3) := by decide +kernel
set_option maxRecDepth 100000 in
theorem wm_X9_228 : Cond.methodLink RX9 228 yX7_poundOf ∈ gw := gm (List.mem_of_getElem? (i := 1174) (by decide +kernel)) rfl
theorem dX9_joined_47 : decode cX9_joined 47 = .ok (.aload_n 0, 1) := by decide +kernel
theorem dX9_joined_48 : decode cX9_joined 48 = .ok (.getfield 10, 3) := by decide +kernel
theorem dX9_joined_51 : decode cX9_joined 51 = .ok (.lload 5, 2) := by decide +kernel
theorem dX9_joined_53 : decode cX9_joined 53 = .ok (.iconst 1, 1) := by decide +kernel
theorem dX9_joined_54 : decode cX9_joined 54 = .ok (.invokevirtual 228, 3) := by decide +kernel
theorem dX9_joined_57 : decode cX9_joined 57 = .ok (.invokestatic 231, 3) := by decide +kernel
set_option maxRecDepth 100000 in
theorem wm_X9_231 : Cond.methodLink RX9 231 yX9_thousandths ∈ gw := gm (List.mem_of_getElem? (i := 1175) (by decide +kernel)) rfl
set_option maxRecDepth 100000 in
theorem mi_X9_thousandths : MI yX9_thousandths cX9_thousandths 2 (some .int) 2 := ⟨gm (List.mem_of_getElem? (i := 1177) rfl) rfl, gm (List.mem_of_getElem? (i := 112) (by decide +kernel)) rfl, by decide, by decide, by decide +kernel⟩
set_option maxRecDepth 100000 in
theorem st_X9_thousandths : Cond.static yX9_thousandths ∈ gw := gm (List.mem_of_getElem? (i := 1176) (by decide +kernel)) rfl
theorem dX9_joined_60 : decode cX9_joined 60 = .ok (.invokevirtual 143, 3) := by decide +kernel
theorem dX9_joined_63 : decode cX9_joined 63 = .ok (.iinc 4 1, 3) := by decide +kernel
theorem dX9_joined_66 : decode cX9_joined 66 = .ok (.goto (-50), 3) := by decide +kernel
theorem dX9_joined_69 : decode cX9_joined 69 = .ok (.aload_n 0, 1) := by decide +kernel
theorem dX9_joined_70 : decode cX9_joined 70 = .ok (.iload_n 3, 1) := by decide +kernel
theorem dX9_joined_71 : decode cX9_joined 71 = .ok (.iload_n 1, 1) := by decide +kernel
theorem dX9_joined_72 : decode cX9_joined 72 = .ok (.invokevirtual 146, 3) := by decide +kernel
theorem dX9_joined_75 : decode cX9_joined 75 = .ok (.ireturn, 1) := by decide +kernel
set_option maxHeartbeats 4000000 in
set_option maxRecDepth 100000 in
theorem c114_X9_joined (l : Launch) (G : va_G) (cI cJ cB cZ : ClassId) (a0 a1 a2 a3 a4 a5 a6 a7 a8 a9 a10 a11 a12 a13 a14 a15 a16 a17 a18 a19 a20 a21 a22 a23 a24 a25 a26 a27 a28 a29 a30 a31 a32 a33 a34 a35 a36 a37 a38 a39 a40 a41 a42 a43 a44 a45 a46 : Nat) (x0 : Int32) (x1 : Int32) : Con l G (TY cI cJ cB cZ) yX9_joined cX9_joined 7 (some .int) ({ frames := 4, cells := 0, slots := 0, locals := 94 } : Room) [.ref a0, .int x0, .int x1] [(a0, .inr (9, [.ref a1, .ref a2, .ref a3, .int 0, .int 0, .ref a4, .ref a5, .ref a6, .ref a7])), (a1, .inr (7, [.int 100, .int 100, .int 0, .ref a8, .ref a9, .int 0, .ref a10, .ref a11, .ref a12, .ref a13, .ref a14, .ref a15, .ref a16, .ref a17, .ref a18])), (a9, .inl (cI, 2, .inl (upd (upd (fun _ => 0) 0 16) 1 16))), (a8, .inl (cI, 2, .inl (upd (upd (fun _ => 0) 0 16) 1 16))), (a17, .inr (8, [.ref a19, .ref a20, .ref a21, .ref a22, .ref a23, .ref a24, .ref a25, .int 0])), (a3, .inr (8, [.ref a26, .ref a27, .ref a28, .ref a29, .ref a30, .ref a31, .ref a32, .int 0])), (a5, .inr (0, [.ref a33, .int 0, .int 0, .long 0, .int 0, .int 0, .long 0])), (a4, .inr (4, [.ref a34, .ref a5, .ref a35, .ref a36, .ref a37, .ref a38, .ref a39, .int 100, .int 0, .int 0, .int (-1)])), (a35, .inr (8, [.ref a40, .ref a41, .ref a42, .ref a43, .ref a44, .ref a45, .ref a46, .int 0])), (a36, .inl (cI, 7, .inl (fun _ => 0))), (a33, .inl (cJ, 256, .inr (.inl (fun _ => 0)))), (a7, .inr (1, [.int 0, .int 0, .int 0, .int 0, .int 0]))] (QI G (TY cI cJ cB cZ) (fun (r : Int32) (u : Unit) => r = 1000) (fun u : Unit => [])) := by
  refine k_met (by decide) (Nat.le_of_ble_eq_true rfl) ?_
  intro p e s m below meth c A ls hC hr hlk hnm hN hK hA hP hD hS hl
  have hl : lv_has ls 7 [(0, .ref a0), (1, .int x0), (2, .int x1)] := hl
  obtain ⟨hx, hb, hml, hown, hts⟩ := id hC
  refine lv_aload_n hx hb dX9_joined_0 rfl (lv_at hl 0 rfl) ?_
  refine lv_iload_n hx hb dX9_joined_1 rfl (lv_at hl 2 rfl) ?_
  refine k_ci (wr := [(a7, .inr (1, [.int 0, .int 0, .int 0, .int 0, .int 0]))]) (k_rV hC hN hK hP hD (c65_X9_known l G cI cJ cB cZ a0 a1 a2 a3 a4 a5 a6 a7 a8 a9 a10 a11 a12 a13 a14 a15 a16 a17 a18 a19 a20 a21 a22 a23 a24 a25 a26 a27 a28 a29 a30 a31 a32 a33 a34 a35 a36 a37 a38 a39 a40 a41 a42 a43 a44 a45 a46 x1) [0, 1, 2, 3, 4, 5, 6, 7, 8, 9, 10] rfl (by decide) mi_X9_known in_X9_known se_X9_known wm_X9_125 9 0 rfl rfl rfl hl.1 rfl rfl (Nat.le_of_ble_eq_true rfl) ⟨(Nat.le_of_ble_eq_true rfl), (Nat.le_of_ble_eq_true rfl)⟩ dX9_joined_2 ⟨(Nat.le_of_ble_eq_true rfl), (Nat.le_of_ble_eq_true rfl)⟩) hP hD hS hA [0, 1, 2, 3, 4, 5, 6, 7, 8, 9, 10] [11] rfl rfl (by decide) (by decide) (fun r1 u1 H locs hp hP hD hS => ?_)
  have hP : va_P G cl [(a7, .inr (1, [.int 0, .int 0, .int 0, .int 0, .int 0])), (a0, .inr (9, [.ref a1, .ref a2, .ref a3, .int 0, .int 0, .ref a4, .ref a5, .ref a6, .ref a7])), (a1, .inr (7, [.int 100, .int 100, .int 0, .ref a8, .ref a9, .int 0, .ref a10, .ref a11, .ref a12, .ref a13, .ref a14, .ref a15, .ref a16, .ref a17, .ref a18])), (a9, .inl (cI, 2, .inl (upd (upd (fun _ => 0) 0 16) 1 16))), (a8, .inl (cI, 2, .inl (upd (upd (fun _ => 0) 0 16) 1 16))), (a17, .inr (8, [.ref a19, .ref a20, .ref a21, .ref a22, .ref a23, .ref a24, .ref a25, .int 0])), (a3, .inr (8, [.ref a26, .ref a27, .ref a28, .ref a29, .ref a30, .ref a31, .ref a32, .int 0])), (a5, .inr (0, [.ref a33, .int 1, .int 1, .long 0, .int 1, .int 0, .long 0])), (a4, .inr (4, [.ref a1, .ref a5, .ref a35, .ref a36, .ref a37, .ref a38, .ref a39, .int 100, .int 0, .int 0, .int (-1)])), (a35, .inr (8, [.ref a40, .ref a41, .ref a42, .ref a43, .ref a44, .ref a45, .ref a46, .int 0])), (a36, .inl (cI, 7, .inl (fun _ => 0))), (a33, .inl (cJ, 256, .inr (.inl (vp_updL (fun _ => 0) 0 0))))] H := hP
  have hD : va_D A [(a7, .inr (1, [.int 0, .int 0, .int 0, .int 0, .int 0])), (a0, .inr (9, [.ref a1, .ref a2, .ref a3, .int 0, .int 0, .ref a4, .ref a5, .ref a6, .ref a7])), (a1, .inr (7, [.int 100, .int 100, .int 0, .ref a8, .ref a9, .int 0, .ref a10, .ref a11, .ref a12, .ref a13, .ref a14, .ref a15, .ref a16, .ref a17, .ref a18])), (a9, .inl (cI, 2, .inl (upd (upd (fun _ => 0) 0 16) 1 16))), (a8, .inl (cI, 2, .inl (upd (upd (fun _ => 0) 0 16) 1 16))), (a17, .inr (8, [.ref a19, .ref a20, .ref a21, .ref a22, .ref a23, .ref a24, .ref a25, .int 0])), (a3, .inr (8, [.ref a26, .ref a27, .ref a28, .ref a29, .ref a30, .ref a31, .ref a32, .int 0])), (a5, .inr (0, [.ref a33, .int 1, .int 1, .long 0, .int 1, .int 0, .long 0])), (a4, .inr (4, [.ref a1, .ref a5, .ref a35, .ref a36, .ref a37, .ref a38, .ref a39, .int 100, .int 0, .int 0, .int (-1)])), (a35, .inr (8, [.ref a40, .ref a41, .ref a42, .ref a43, .ref a44, .ref a45, .ref a46, .int 0])), (a36, .inl (cI, 7, .inl (fun _ => 0))), (a33, .inl (cJ, 256, .inr (.inl (vp_updL (fun _ => 0) 0 0))))] := hD
  subst hp
  refine lv_istore_n (lv' := [(3, .int 1), (0, .ref a0), (1, .int x0), (2, .int x1)]) hx hb dX9_joined_5 rfl hl (by decide) rfl (fun ls hl => ?_)
  refine lv_aload_n hx hb dX9_joined_6 rfl (lv_at hl 1 rfl) ?_
  refine k_get hC hK hP iX9 1 8 wf_X9_61 rfl (by decide) rfl rfl dX9_joined_7 ?_
  refine k_cv (wr := [(a0, .inr (9, [.ref a1, .ref a2, .ref a3, .int 0, .int 0, .ref a4, .ref a5, .ref a6, .ref a7])), (a1, .inr (7, [.int 100, .int 100, .int 0, .ref a8, .ref a9, .int 0, .ref a10, .ref a11, .ref a12, .ref a13, .ref a14, .ref a15, .ref a16, .ref a17, .ref a18])), (a9, .inl (cI, 2, .inl (upd (upd (fun _ => 0) 0 16) 1 16))), (a8, .inl (cI, 2, .inl (upd (upd (fun _ => 0) 0 16) 1 16))), (a17, .inr (8, [.ref a19, .ref a20, .ref a21, .ref a22, .ref a23, .ref a24, .ref a25, .int 0])), (a3, .inr (8, [.ref a26, .ref a27, .ref a28, .ref a29, .ref a30, .ref a31, .ref a32, .int 0])), (a5, .inr (0, [.ref a33, .int 1, .int 1, .long 0, .int 1, .int 0, .long 0])), (a4, .inr (4, [.ref a1, .ref a5, .ref a35, .ref a36, .ref a37, .ref a38, .ref a39, .int 100, .int 0, .int 0, .int (-1)])), (a35, .inr (8, [.ref a40, .ref a41, .ref a42, .ref a43, .ref a44, .ref a45, .ref a46, .int 0])), (a36, .inl (cI, 7, .inl (fun _ => 0))), (a33, .inl (cJ, 256, .inr (.inl (vp_updL (fun _ => 0) 0 0))))]) (k_rV hC hN hK hP hD (c79_X1_begin l G cI cJ cB cZ a7) [0] rfl (by decide) mi_X1_begin in_X1_begin se_X1_begin wm_X9_140 1 0 rfl rfl rfl hl.1 rfl rfl (Nat.le_of_ble_eq_true rfl) ⟨(Nat.le_of_ble_eq_true rfl), (Nat.le_of_ble_eq_true rfl)⟩ dX9_joined_10 ⟨(Nat.le_of_ble_eq_true rfl), (Nat.le_of_ble_eq_true rfl)⟩) hP hD hS hA [0] [1, 2, 3, 4, 5, 6, 7, 8, 9, 10, 11] rfl rfl (by decide) (by decide) (fun u2 H locs hp hP hD hS => ?_)
  have hP : va_P G cl [(a0, .inr (9, [.ref a1, .ref a2, .ref a3, .int 0, .int 0, .ref a4, .ref a5, .ref a6, .ref a7])), (a1, .inr (7, [.int 100, .int 100, .int 0, .ref a8, .ref a9, .int 0, .ref a10, .ref a11, .ref a12, .ref a13, .ref a14, .ref a15, .ref a16, .ref a17, .ref a18])), (a9, .inl (cI, 2, .inl (upd (upd (fun _ => 0) 0 16) 1 16))), (a8, .inl (cI, 2, .inl (upd (upd (fun _ => 0) 0 16) 1 16))), (a17, .inr (8, [.ref a19, .ref a20, .ref a21, .ref a22, .ref a23, .ref a24, .ref a25, .int 0])), (a3, .inr (8, [.ref a26, .ref a27, .ref a28, .ref a29, .ref a30, .ref a31, .ref a32, .int 0])), (a5, .inr (0, [.ref a33, .int 1, .int 1, .long 0, .int 1, .int 0, .long 0])), (a4, .inr (4, [.ref a1, .ref a5, .ref a35, .ref a36, .ref a37, .ref a38, .ref a39, .int 100, .int 0, .int 0, .int (-1)])), (a35, .inr (8, [.ref a40, .ref a41, .ref a42, .ref a43, .ref a44, .ref a45, .ref a46, .int 0])), (a36, .inl (cI, 7, .inl (fun _ => 0))), (a33, .inl (cJ, 256, .inr (.inl (vp_updL (fun _ => 0) 0 0)))), (a7, .inr (1, [.int 0, .int 0, .int 0, .int 0, .int 0]))] H := hP
  have hD : va_D A [(a0, .inr (9, [.ref a1, .ref a2, .ref a3, .int 0, .int 0, .ref a4, .ref a5, .ref a6, .ref a7])), (a1, .inr (7, [.int 100, .int 100, .int 0, .ref a8, .ref a9, .int 0, .ref a10, .ref a11, .ref a12, .ref a13, .ref a14, .ref a15, .ref a16, .ref a17, .ref a18])), (a9, .inl (cI, 2, .inl (upd (upd (fun _ => 0) 0 16) 1 16))), (a8, .inl (cI, 2, .inl (upd (upd (fun _ => 0) 0 16) 1 16))), (a17, .inr (8, [.ref a19, .ref a20, .ref a21, .ref a22, .ref a23, .ref a24, .ref a25, .int 0])), (a3, .inr (8, [.ref a26, .ref a27, .ref a28, .ref a29, .ref a30, .ref a31, .ref a32, .int 0])), (a5, .inr (0, [.ref a33, .int 1, .int 1, .long 0, .int 1, .int 0, .long 0])), (a4, .inr (4, [.ref a1, .ref a5, .ref a35, .ref a36, .ref a37, .ref a38, .ref a39, .int 100, .int 0, .int 0, .int (-1)])), (a35, .inr (8, [.ref a40, .ref a41, .ref a42, .ref a43, .ref a44, .ref a45, .ref a46, .int 0])), (a36, .inl (cI, 7, .inl (fun _ => 0))), (a33, .inl (cJ, 256, .inr (.inl (vp_updL (fun _ => 0) 0 0)))), (a7, .inr (1, [.int 0, .int 0, .int 0, .int 0, .int 0]))] := hD
  refine lv_iconst (v := 0) hx hb dX9_joined_13 (by decide) ?_
  refine lv_istore (lv' := [(4, .int 0), (3, .int 1), (0, .ref a0), (1, .int x0), (2, .int x1)]) hx hb dX9_joined_14 hl (by decide) rfl (fun ls hl => ?_)
  refine lv_iload hx hb dX9_joined_16 (lv_at hl 0 rfl) ?_
  refine lv_iload_n hx hb dX9_joined_18 rfl (lv_at hl 1 rfl) ?_
  refine lv_icmp_ge (tgt := 69) hx hb dX9_joined_19 (by decide) (fun c_ => absurd c_ (by decide +kernel)) (fun _ => ?_)
  refine lv_aload_n hx hb dX9_joined_22 rfl (lv_at hl 2 rfl) ?_
  refine k_get hC hK hP iX9 0 6 wf_X9_50 rfl (by decide) rfl rfl dX9_joined_23 ?_
  refine lv_iload hx hb dX9_joined_26 (lv_at hl 0 rfl) ?_
  refine k_cl (wr := [(a0, .inr (9, [.ref a1, .ref a2, .ref a3, .int 0, .int 0, .ref a4, .ref a5, .ref a6, .ref a7])), (a1, .inr (7, [.int 100, .int 100, .int 0, .ref a8, .ref a9, .int 0, .ref a10, .ref a11, .ref a12, .ref a13, .ref a14, .ref a15, .ref a16, .ref a17, .ref a18])), (a9, .inl (cI, 2, .inl (upd (upd (fun _ => 0) 0 16) 1 16))), (a8, .inl (cI, 2, .inl (upd (upd (fun _ => 0) 0 16) 1 16))), (a17, .inr (8, [.ref a19, .ref a20, .ref a21, .ref a22, .ref a23, .ref a24, .ref a25, .int 0])), (a3, .inr (8, [.ref a26, .ref a27, .ref a28, .ref a29, .ref a30, .ref a31, .ref a32, .int 0])), (a4, .inr (4, [.ref a1, .ref a5, .ref a35, .ref a36, .ref a37, .ref a38, .ref a39, .int 100, .int 0, .int 0, .int (-1)])), (a35, .inr (8, [.ref a40, .ref a41, .ref a42, .ref a43, .ref a44, .ref a45, .ref a46, .int 0])), (a36, .inl (cI, 7, .inl (fun _ => 0))), (a7, .inr (1, [.int 0, .int 0, .int 0, .int 0, .int 0]))]) (k_rV hC hN hK hP hD (c68_X0_row l G cI cJ cB cZ a5 a33) [6, 10] rfl (by decide) mi_X0_row in_X0_row se_X0_row wm_X9_132 0 6 rfl rfl rfl hl.1 rfl rfl (Nat.le_of_ble_eq_true rfl) ⟨(Nat.le_of_ble_eq_true rfl), (Nat.le_of_ble_eq_true rfl)⟩ dX9_joined_28 ⟨(Nat.le_of_ble_eq_true rfl), (Nat.le_of_ble_eq_true rfl)⟩) hP hD hS hA [6, 10] [0, 1, 2, 3, 4, 5, 7, 8, 9, 11] rfl rfl (by decide) (by decide) (fun r3 u3 H locs hp hP hD hS => ?_)
  have hP : va_P G cl [(a0, .inr (9, [.ref a1, .ref a2, .ref a3, .int 0, .int 0, .ref a4, .ref a5, .ref a6, .ref a7])), (a1, .inr (7, [.int 100, .int 100, .int 0, .ref a8, .ref a9, .int 0, .ref a10, .ref a11, .ref a12, .ref a13, .ref a14, .ref a15, .ref a16, .ref a17, .ref a18])), (a9, .inl (cI, 2, .inl (upd (upd (fun _ => 0) 0 16) 1 16))), (a8, .inl (cI, 2, .inl (upd (upd (fun _ => 0) 0 16) 1 16))), (a17, .inr (8, [.ref a19, .ref a20, .ref a21, .ref a22, .ref a23, .ref a24, .ref a25, .int 0])), (a3, .inr (8, [.ref a26, .ref a27, .ref a28, .ref a29, .ref a30, .ref a31, .ref a32, .int 0])), (a4, .inr (4, [.ref a1, .ref a5, .ref a35, .ref a36, .ref a37, .ref a38, .ref a39, .int 100, .int 0, .int 0, .int (-1)])), (a35, .inr (8, [.ref a40, .ref a41, .ref a42, .ref a43, .ref a44, .ref a45, .ref a46, .int 0])), (a36, .inl (cI, 7, .inl (fun _ => 0))), (a7, .inr (1, [.int 0, .int 0, .int 0, .int 0, .int 0])), (a5, .inr (0, [.ref a33, .int 1, .int 1, .long 0, .int 1, .int 0, .long 0])), (a33, .inl (cJ, 256, .inr (.inl (vp_updL (fun _ => 0) 0 0))))] H := hP
  have hD : va_D A [(a0, .inr (9, [.ref a1, .ref a2, .ref a3, .int 0, .int 0, .ref a4, .ref a5, .ref a6, .ref a7])), (a1, .inr (7, [.int 100, .int 100, .int 0, .ref a8, .ref a9, .int 0, .ref a10, .ref a11, .ref a12, .ref a13, .ref a14, .ref a15, .ref a16, .ref a17, .ref a18])), (a9, .inl (cI, 2, .inl (upd (upd (fun _ => 0) 0 16) 1 16))), (a8, .inl (cI, 2, .inl (upd (upd (fun _ => 0) 0 16) 1 16))), (a17, .inr (8, [.ref a19, .ref a20, .ref a21, .ref a22, .ref a23, .ref a24, .ref a25, .int 0])), (a3, .inr (8, [.ref a26, .ref a27, .ref a28, .ref a29, .ref a30, .ref a31, .ref a32, .int 0])), (a4, .inr (4, [.ref a1, .ref a5, .ref a35, .ref a36, .ref a37, .ref a38, .ref a39, .int 100, .int 0, .int 0, .int (-1)])), (a35, .inr (8, [.ref a40, .ref a41, .ref a42, .ref a43, .ref a44, .ref a45, .ref a46, .int 0])), (a36, .inl (cI, 7, .inl (fun _ => 0))), (a7, .inr (1, [.int 0, .int 0, .int 0, .int 0, .int 0])), (a5, .inr (0, [.ref a33, .int 1, .int 1, .long 0, .int 1, .int 0, .long 0])), (a33, .inl (cJ, 256, .inr (.inl (vp_updL (fun _ => 0) 0 0))))] := hD
  subst hp
  refine lv_lstore (lv' := [(5, .long 0), (4, .int 0), (3, .int 1), (0, .ref a0), (1, .int x0), (2, .int x1)]) hx hb dX9_joined_31 hl (by decide) rfl (fun ls hl => ?_)
  refine lv_aload_n hx hb dX9_joined_33 rfl (lv_at hl 3 rfl) ?_
  refine k_get hC hK hP iX9 0 8 wf_X9_61 rfl (by decide) rfl rfl dX9_joined_34 ?_
  refine lv_aload_n hx hb dX9_joined_37 rfl (lv_at hl 3 rfl) ?_
  refine k_get hC hK hP iX9 0 0 wf_X9_10 rfl (by decide) rfl rfl dX9_joined_38 ?_
  refine lv_lload hx hb dX9_joined_41 (lv_at hl 0 rfl) ?_
  refine lv_iconst (v := 0) hx hb dX9_joined_43 (by decide) ?_
  refine k_ci (wr := [(a0, .inr (9, [.ref a1, .ref a2, .ref a3, .int 0, .int 0, .ref a4, .ref a5, .ref a6, .ref a7])), (a9, .inl (cI, 2, .inl (upd (upd (fun _ => 0) 0 16) 1 16))), (a17, .inr (8, [.ref a19, .ref a20, .ref a21, .ref a22, .ref a23, .ref a24, .ref a25, .int 0])), (a3, .inr (8, [.ref a26, .ref a27, .ref a28, .ref a29, .ref a30, .ref a31, .ref a32, .int 0])), (a4, .inr (4, [.ref a1, .ref a5, .ref a35, .ref a36, .ref a37, .ref a38, .ref a39, .int 100, .int 0, .int 0, .int (-1)])), (a35, .inr (8, [.ref a40, .ref a41, .ref a42, .ref a43, .ref a44, .ref a45, .ref a46, .int 0])), (a36, .inl (cI, 7, .inl (fun _ => 0))), (a7, .inr (1, [.int 0, .int 0, .int 0, .int 0, .int 0])), (a5, .inr (0, [.ref a33, .int 1, .int 1, .long 0, .int 1, .int 0, .long 0])), (a33, .inl (cJ, 256, .inr (.inl (vp_updL (fun _ => 0) 0 0))))]) (k_rV hC hN hK hP hD (c73_X7_poundOf l G cI cJ cB cZ a1 a8 a9 a10 a11 a12 a13 a14 a15 a16 a17 a18) [1, 3] rfl (by decide) mi_X7_poundOf in_X7_poundOf se_X7_poundOf wm_X9_228 7 1 rfl rfl rfl hl.1 rfl rfl (Nat.le_of_ble_eq_true rfl) ⟨(Nat.le_of_ble_eq_true rfl), (Nat.le_of_ble_eq_true rfl)⟩ dX9_joined_44 ⟨(Nat.le_of_ble_eq_true rfl), (Nat.le_of_ble_eq_true rfl)⟩) hP hD hS hA [1, 3] [0, 2, 4, 5, 6, 7, 8, 9, 10, 11] rfl rfl (by decide) (by decide) (fun r4 u4 H locs hp hP hD hS => ?_)
  have hP : va_P G cl [(a0, .inr (9, [.ref a1, .ref a2, .ref a3, .int 0, .int 0, .ref a4, .ref a5, .ref a6, .ref a7])), (a9, .inl (cI, 2, .inl (upd (upd (fun _ => 0) 0 16) 1 16))), (a17, .inr (8, [.ref a19, .ref a20, .ref a21, .ref a22, .ref a23, .ref a24, .ref a25, .int 0])), (a3, .inr (8, [.ref a26, .ref a27, .ref a28, .ref a29, .ref a30, .ref a31, .ref a32, .int 0])), (a4, .inr (4, [.ref a1, .ref a5, .ref a35, .ref a36, .ref a37, .ref a38, .ref a39, .int 100, .int 0, .int 0, .int (-1)])), (a35, .inr (8, [.ref a40, .ref a41, .ref a42, .ref a43, .ref a44, .ref a45, .ref a46, .int 0])), (a36, .inl (cI, 7, .inl (fun _ => 0))), (a7, .inr (1, [.int 0, .int 0, .int 0, .int 0, .int 0])), (a5, .inr (0, [.ref a33, .int 1, .int 1, .long 0, .int 1, .int 0, .long 0])), (a33, .inl (cJ, 256, .inr (.inl (vp_updL (fun _ => 0) 0 0)))), (a1, .inr (7, [.int 100, .int 100, .int 0, .ref a8, .ref a9, .int 0, .ref a10, .ref a11, .ref a12, .ref a13, .ref a14, .ref a15, .ref a16, .ref a17, .ref a18])), (a8, .inl (cI, 2, .inl (upd (upd (fun _ => 0) 0 16) 1 16)))] H := hP
  have hD : va_D A [(a0, .inr (9, [.ref a1, .ref a2, .ref a3, .int 0, .int 0, .ref a4, .ref a5, .ref a6, .ref a7])), (a9, .inl (cI, 2, .inl (upd (upd (fun _ => 0) 0 16) 1 16))), (a17, .inr (8, [.ref a19, .ref a20, .ref a21, .ref a22, .ref a23, .ref a24, .ref a25, .int 0])), (a3, .inr (8, [.ref a26, .ref a27, .ref a28, .ref a29, .ref a30, .ref a31, .ref a32, .int 0])), (a4, .inr (4, [.ref a1, .ref a5, .ref a35, .ref a36, .ref a37, .ref a38, .ref a39, .int 100, .int 0, .int 0, .int (-1)])), (a35, .inr (8, [.ref a40, .ref a41, .ref a42, .ref a43, .ref a44, .ref a45, .ref a46, .int 0])), (a36, .inl (cI, 7, .inl (fun _ => 0))), (a7, .inr (1, [.int 0, .int 0, .int 0, .int 0, .int 0])), (a5, .inr (0, [.ref a33, .int 1, .int 1, .long 0, .int 1, .int 0, .long 0])), (a33, .inl (cJ, 256, .inr (.inl (vp_updL (fun _ => 0) 0 0)))), (a1, .inr (7, [.int 100, .int 100, .int 0, .ref a8, .ref a9, .int 0, .ref a10, .ref a11, .ref a12, .ref a13, .ref a14, .ref a15, .ref a16, .ref a17, .ref a18])), (a8, .inl (cI, 2, .inl (upd (upd (fun _ => 0) 0 16) 1 16)))] := hD
  subst hp
  refine lv_aload_n hx hb dX9_joined_47 rfl (lv_at hl 3 rfl) ?_
  refine k_get hC hK hP iX9 0 0 wf_X9_10 rfl (by decide) rfl rfl dX9_joined_48 ?_
  refine lv_lload hx hb dX9_joined_51 (lv_at hl 0 rfl) ?_
  refine lv_iconst (v := 1) hx hb dX9_joined_53 (by decide) ?_
  refine k_ci (wr := [(a0, .inr (9, [.ref a1, .ref a2, .ref a3, .int 0, .int 0, .ref a4, .ref a5, .ref a6, .ref a7])), (a9, .inl (cI, 2, .inl (upd (upd (fun _ => 0) 0 16) 1 16))), (a17, .inr (8, [.ref a19, .ref a20, .ref a21, .ref a22, .ref a23, .ref a24, .ref a25, .int 0])), (a3, .inr (8, [.ref a26, .ref a27, .ref a28, .ref a29, .ref a30, .ref a31, .ref a32, .int 0])), (a4, .inr (4, [.ref a1, .ref a5, .ref a35, .ref a36, .ref a37, .ref a38, .ref a39, .int 100, .int 0, .int 0, .int (-1)])), (a35, .inr (8, [.ref a40, .ref a41, .ref a42, .ref a43, .ref a44, .ref a45, .ref a46, .int 0])), (a36, .inl (cI, 7, .inl (fun _ => 0))), (a7, .inr (1, [.int 0, .int 0, .int 0, .int 0, .int 0])), (a5, .inr (0, [.ref a33, .int 1, .int 1, .long 0, .int 1, .int 0, .long 0])), (a33, .inl (cJ, 256, .inr (.inl (vp_updL (fun _ => 0) 0 0))))]) (k_rV hC hN hK hP hD (c76_X7_poundOf l G cI cJ cB cZ a1 a8 a9 a10 a11 a12 a13 a14 a15 a16 a17 a18) [10, 11] rfl (by decide) mi_X7_poundOf in_X7_poundOf se_X7_poundOf wm_X9_228 7 10 rfl rfl rfl hl.1 rfl rfl (Nat.le_of_ble_eq_true rfl) ⟨(Nat.le_of_ble_eq_true rfl), (Nat.le_of_ble_eq_true rfl)⟩ dX9_joined_54 ⟨(Nat.le_of_ble_eq_true rfl), (Nat.le_of_ble_eq_true rfl)⟩) hP hD hS hA [10, 11] [0, 1, 2, 3, 4, 5, 6, 7, 8, 9] rfl rfl (by decide) (by decide) (fun r5 u5 H locs hp hP hD hS => ?_)
  have hP : va_P G cl [(a0, .inr (9, [.ref a1, .ref a2, .ref a3, .int 0, .int 0, .ref a4, .ref a5, .ref a6, .ref a7])), (a9, .inl (cI, 2, .inl (upd (upd (fun _ => 0) 0 16) 1 16))), (a17, .inr (8, [.ref a19, .ref a20, .ref a21, .ref a22, .ref a23, .ref a24, .ref a25, .int 0])), (a3, .inr (8, [.ref a26, .ref a27, .ref a28, .ref a29, .ref a30, .ref a31, .ref a32, .int 0])), (a4, .inr (4, [.ref a1, .ref a5, .ref a35, .ref a36, .ref a37, .ref a38, .ref a39, .int 100, .int 0, .int 0, .int (-1)])), (a35, .inr (8, [.ref a40, .ref a41, .ref a42, .ref a43, .ref a44, .ref a45, .ref a46, .int 0])), (a36, .inl (cI, 7, .inl (fun _ => 0))), (a7, .inr (1, [.int 0, .int 0, .int 0, .int 0, .int 0])), (a5, .inr (0, [.ref a33, .int 1, .int 1, .long 0, .int 1, .int 0, .long 0])), (a33, .inl (cJ, 256, .inr (.inl (vp_updL (fun _ => 0) 0 0)))), (a1, .inr (7, [.int 100, .int 100, .int 0, .ref a8, .ref a9, .int 0, .ref a10, .ref a11, .ref a12, .ref a13, .ref a14, .ref a15, .ref a16, .ref a17, .ref a18])), (a8, .inl (cI, 2, .inl (upd (upd (fun _ => 0) 0 16) 1 16)))] H := hP
  have hD : va_D A [(a0, .inr (9, [.ref a1, .ref a2, .ref a3, .int 0, .int 0, .ref a4, .ref a5, .ref a6, .ref a7])), (a9, .inl (cI, 2, .inl (upd (upd (fun _ => 0) 0 16) 1 16))), (a17, .inr (8, [.ref a19, .ref a20, .ref a21, .ref a22, .ref a23, .ref a24, .ref a25, .int 0])), (a3, .inr (8, [.ref a26, .ref a27, .ref a28, .ref a29, .ref a30, .ref a31, .ref a32, .int 0])), (a4, .inr (4, [.ref a1, .ref a5, .ref a35, .ref a36, .ref a37, .ref a38, .ref a39, .int 100, .int 0, .int 0, .int (-1)])), (a35, .inr (8, [.ref a40, .ref a41, .ref a42, .ref a43, .ref a44, .ref a45, .ref a46, .int 0])), (a36, .inl (cI, 7, .inl (fun _ => 0))), (a7, .inr (1, [.int 0, .int 0, .int 0, .int 0, .int 0])), (a5, .inr (0, [.ref a33, .int 1, .int 1, .long 0, .int 1, .int 0, .long 0])), (a33, .inl (cJ, 256, .inr (.inl (vp_updL (fun _ => 0) 0 0)))), (a1, .inr (7, [.int 100, .int 100, .int 0, .ref a8, .ref a9, .int 0, .ref a10, .ref a11, .ref a12, .ref a13, .ref a14, .ref a15, .ref a16, .ref a17, .ref a18])), (a8, .inl (cI, 2, .inl (upd (upd (fun _ => 0) 0 16) 1 16)))] := hD
  subst hp
  refine k_ci (wr := [(a0, .inr (9, [.ref a1, .ref a2, .ref a3, .int 0, .int 0, .ref a4, .ref a5, .ref a6, .ref a7])), (a9, .inl (cI, 2, .inl (upd (upd (fun _ => 0) 0 16) 1 16))), (a17, .inr (8, [.ref a19, .ref a20, .ref a21, .ref a22, .ref a23, .ref a24, .ref a25, .int 0])), (a3, .inr (8, [.ref a26, .ref a27, .ref a28, .ref a29, .ref a30, .ref a31, .ref a32, .int 0])), (a4, .inr (4, [.ref a1, .ref a5, .ref a35, .ref a36, .ref a37, .ref a38, .ref a39, .int 100, .int 0, .int 0, .int (-1)])), (a35, .inr (8, [.ref a40, .ref a41, .ref a42, .ref a43, .ref a44, .ref a45, .ref a46, .int 0])), (a36, .inl (cI, 7, .inl (fun _ => 0))), (a7, .inr (1, [.int 0, .int 0, .int 0, .int 0, .int 0])), (a5, .inr (0, [.ref a33, .int 1, .int 1, .long 0, .int 1, .int 0, .long 0])), (a33, .inl (cJ, 256, .inr (.inl (vp_updL (fun _ => 0) 0 0)))), (a1, .inr (7, [.int 100, .int 100, .int 0, .ref a8, .ref a9, .int 0, .ref a10, .ref a11, .ref a12, .ref a13, .ref a14, .ref a15, .ref a16, .ref a17, .ref a18])), (a8, .inl (cI, 2, .inl (upd (upd (fun _ => 0) 0 16) 1 16)))]) (k_rS hC hN hK hP hD (c110_X9_thousandths l G cI cJ cB cZ) [] rfl (by decide) mi_X9_thousandths st_X9_thousandths wm_X9_231 hl.1 rfl rfl (Nat.le_of_ble_eq_true rfl) ⟨(Nat.le_of_ble_eq_true rfl), (Nat.le_of_ble_eq_true rfl)⟩ dX9_joined_57 ⟨(Nat.le_of_ble_eq_true rfl), (Nat.le_of_ble_eq_true rfl)⟩) hP hD hS hA [] [0, 1, 2, 3, 4, 5, 6, 7, 8, 9, 10, 11] rfl rfl (by decide) (by decide) (fun r6 u6 H locs hp hP hD hS => ?_)
  have hP : va_P G cl [(a0, .inr (9, [.ref a1, .ref a2, .ref a3, .int 0, .int 0, .ref a4, .ref a5, .ref a6, .ref a7])), (a9, .inl (cI, 2, .inl (upd (upd (fun _ => 0) 0 16) 1 16))), (a17, .inr (8, [.ref a19, .ref a20, .ref a21, .ref a22, .ref a23, .ref a24, .ref a25, .int 0])), (a3, .inr (8, [.ref a26, .ref a27, .ref a28, .ref a29, .ref a30, .ref a31, .ref a32, .int 0])), (a4, .inr (4, [.ref a1, .ref a5, .ref a35, .ref a36, .ref a37, .ref a38, .ref a39, .int 100, .int 0, .int 0, .int (-1)])), (a35, .inr (8, [.ref a40, .ref a41, .ref a42, .ref a43, .ref a44, .ref a45, .ref a46, .int 0])), (a36, .inl (cI, 7, .inl (fun _ => 0))), (a7, .inr (1, [.int 0, .int 0, .int 0, .int 0, .int 0])), (a5, .inr (0, [.ref a33, .int 1, .int 1, .long 0, .int 1, .int 0, .long 0])), (a33, .inl (cJ, 256, .inr (.inl (vp_updL (fun _ => 0) 0 0)))), (a1, .inr (7, [.int 100, .int 100, .int 0, .ref a8, .ref a9, .int 0, .ref a10, .ref a11, .ref a12, .ref a13, .ref a14, .ref a15, .ref a16, .ref a17, .ref a18])), (a8, .inl (cI, 2, .inl (upd (upd (fun _ => 0) 0 16) 1 16)))] H := hP
  have hD : va_D A [(a0, .inr (9, [.ref a1, .ref a2, .ref a3, .int 0, .int 0, .ref a4, .ref a5, .ref a6, .ref a7])), (a9, .inl (cI, 2, .inl (upd (upd (fun _ => 0) 0 16) 1 16))), (a17, .inr (8, [.ref a19, .ref a20, .ref a21, .ref a22, .ref a23, .ref a24, .ref a25, .int 0])), (a3, .inr (8, [.ref a26, .ref a27, .ref a28, .ref a29, .ref a30, .ref a31, .ref a32, .int 0])), (a4, .inr (4, [.ref a1, .ref a5, .ref a35, .ref a36, .ref a37, .ref a38, .ref a39, .int 100, .int 0, .int 0, .int (-1)])), (a35, .inr (8, [.ref a40, .ref a41, .ref a42, .ref a43, .ref a44, .ref a45, .ref a46, .int 0])), (a36, .inl (cI, 7, .inl (fun _ => 0))), (a7, .inr (1, [.int 0, .int 0, .int 0, .int 0, .int 0])), (a5, .inr (0, [.ref a33, .int 1, .int 1, .long 0, .int 1, .int 0, .long 0])), (a33, .inl (cJ, 256, .inr (.inl (vp_updL (fun _ => 0) 0 0)))), (a1, .inr (7, [.int 100, .int 100, .int 0, .ref a8, .ref a9, .int 0, .ref a10, .ref a11, .ref a12, .ref a13, .ref a14, .ref a15, .ref a16, .ref a17, .ref a18])), (a8, .inl (cI, 2, .inl (upd (upd (fun _ => 0) 0 16) 1 16)))] := hD
  subst hp
  refine k_cv (wr := [(a0, .inr (9, [.ref a1, .ref a2, .ref a3, .int 0, .int 0, .ref a4, .ref a5, .ref a6, .ref a7])), (a9, .inl (cI, 2, .inl (upd (upd (fun _ => 0) 0 16) 1 16))), (a17, .inr (8, [.ref a19, .ref a20, .ref a21, .ref a22, .ref a23, .ref a24, .ref a25, .int 0])), (a3, .inr (8, [.ref a26, .ref a27, .ref a28, .ref a29, .ref a30, .ref a31, .ref a32, .int 0])), (a4, .inr (4, [.ref a1, .ref a5, .ref a35, .ref a36, .ref a37, .ref a38, .ref a39, .int 100, .int 0, .int 0, .int (-1)])), (a35, .inr (8, [.ref a40, .ref a41, .ref a42, .ref a43, .ref a44, .ref a45, .ref a46, .int 0])), (a36, .inl (cI, 7, .inl (fun _ => 0))), (a5, .inr (0, [.ref a33, .int 1, .int 1, .long 0, .int 1, .int 0, .long 0])), (a33, .inl (cJ, 256, .inr (.inl (vp_updL (fun _ => 0) 0 0)))), (a1, .inr (7, [.int 100, .int 100, .int 0, .ref a8, .ref a9, .int 0, .ref a10, .ref a11, .ref a12, .ref a13, .ref a14, .ref a15, .ref a16, .ref a17, .ref a18])), (a8, .inl (cI, 2, .inl (upd (upd (fun _ => 0) 0 16) 1 16)))]) (k_rV hC hN hK hP hD (c111_X1_take l G cI cJ cB cZ a7) [7] rfl (by decide) mi_X1_take in_X1_take se_X1_take wm_X9_143 1 7 rfl rfl rfl hl.1 rfl rfl (Nat.le_of_ble_eq_true rfl) ⟨(Nat.le_of_ble_eq_true rfl), (Nat.le_of_ble_eq_true rfl)⟩ dX9_joined_60 ⟨(Nat.le_of_ble_eq_true rfl), (Nat.le_of_ble_eq_true rfl)⟩) hP hD hS hA [7] [0, 1, 2, 3, 4, 5, 6, 8, 9, 10, 11] rfl rfl (by decide) (by decide) (fun u7 H locs hp hP hD hS => ?_)
  have hP : va_P G cl [(a0, .inr (9, [.ref a1, .ref a2, .ref a3, .int 0, .int 0, .ref a4, .ref a5, .ref a6, .ref a7])), (a9, .inl (cI, 2, .inl (upd (upd (fun _ => 0) 0 16) 1 16))), (a17, .inr (8, [.ref a19, .ref a20, .ref a21, .ref a22, .ref a23, .ref a24, .ref a25, .int 0])), (a3, .inr (8, [.ref a26, .ref a27, .ref a28, .ref a29, .ref a30, .ref a31, .ref a32, .int 0])), (a4, .inr (4, [.ref a1, .ref a5, .ref a35, .ref a36, .ref a37, .ref a38, .ref a39, .int 100, .int 0, .int 0, .int (-1)])), (a35, .inr (8, [.ref a40, .ref a41, .ref a42, .ref a43, .ref a44, .ref a45, .ref a46, .int 0])), (a36, .inl (cI, 7, .inl (fun _ => 0))), (a5, .inr (0, [.ref a33, .int 1, .int 1, .long 0, .int 1, .int 0, .long 0])), (a33, .inl (cJ, 256, .inr (.inl (vp_updL (fun _ => 0) 0 0)))), (a1, .inr (7, [.int 100, .int 100, .int 0, .ref a8, .ref a9, .int 0, .ref a10, .ref a11, .ref a12, .ref a13, .ref a14, .ref a15, .ref a16, .ref a17, .ref a18])), (a8, .inl (cI, 2, .inl (upd (upd (fun _ => 0) 0 16) 1 16))), (a7, .inr (1, [.int 1, .int 1000, .int 1000, .int 0, .int 0]))] H := hP
  have hD : va_D A [(a0, .inr (9, [.ref a1, .ref a2, .ref a3, .int 0, .int 0, .ref a4, .ref a5, .ref a6, .ref a7])), (a9, .inl (cI, 2, .inl (upd (upd (fun _ => 0) 0 16) 1 16))), (a17, .inr (8, [.ref a19, .ref a20, .ref a21, .ref a22, .ref a23, .ref a24, .ref a25, .int 0])), (a3, .inr (8, [.ref a26, .ref a27, .ref a28, .ref a29, .ref a30, .ref a31, .ref a32, .int 0])), (a4, .inr (4, [.ref a1, .ref a5, .ref a35, .ref a36, .ref a37, .ref a38, .ref a39, .int 100, .int 0, .int 0, .int (-1)])), (a35, .inr (8, [.ref a40, .ref a41, .ref a42, .ref a43, .ref a44, .ref a45, .ref a46, .int 0])), (a36, .inl (cI, 7, .inl (fun _ => 0))), (a5, .inr (0, [.ref a33, .int 1, .int 1, .long 0, .int 1, .int 0, .long 0])), (a33, .inl (cJ, 256, .inr (.inl (vp_updL (fun _ => 0) 0 0)))), (a1, .inr (7, [.int 100, .int 100, .int 0, .ref a8, .ref a9, .int 0, .ref a10, .ref a11, .ref a12, .ref a13, .ref a14, .ref a15, .ref a16, .ref a17, .ref a18])), (a8, .inl (cI, 2, .inl (upd (upd (fun _ => 0) 0 16) 1 16))), (a7, .inr (1, [.int 1, .int 1000, .int 1000, .int 0, .int 0]))] := hD
  refine lv_iinc (v := 1) (lv' := [(4, .int 1), (5, .long 0), (3, .int 1), (0, .ref a0), (1, .int x0), (2, .int x1)]) hx hb dX9_joined_63 hl (k := 1) rfl (by decide +kernel) (by decide) rfl (fun ls hl => ?_)
  refine lv_goto (tgt := 16) hx hb dX9_joined_66 (by decide) ?_
  refine lv_iload hx hb dX9_joined_16 (lv_at hl 0 rfl) ?_
  refine lv_iload_n hx hb dX9_joined_18 rfl (lv_at hl 2 rfl) ?_
  refine lv_icmp_ge (tgt := 69) hx hb dX9_joined_19 (by decide) (fun _ => ?_) (fun c_ => absurd (by decide +kernel) c_)
  refine lv_aload_n hx hb dX9_joined_69 rfl (lv_at hl 3 rfl) ?_
  refine lv_iload_n hx hb dX9_joined_70 rfl (lv_at hl 2 rfl) ?_
  refine lv_iload_n hx hb dX9_joined_71 rfl (lv_at hl 4 rfl) ?_
  refine k_ci (wr := [(a9, .inl (cI, 2, .inl (upd (upd (fun _ => 0) 0 16) 1 16))), (a17, .inr (8, [.ref a19, .ref a20, .ref a21, .ref a22, .ref a23, .ref a24, .ref a25, .int 0])), (a3, .inr (8, [.ref a26, .ref a27, .ref a28, .ref a29, .ref a30, .ref a31, .ref a32, .int 0])), (a4, .inr (4, [.ref a1, .ref a5, .ref a35, .ref a36, .ref a37, .ref a38, .ref a39, .int 100, .int 0, .int 0, .int (-1)])), (a35, .inr (8, [.ref a40, .ref a41, .ref a42, .ref a43, .ref a44, .ref a45, .ref a46, .int 0])), (a36, .inl (cI, 7, .inl (fun _ => 0))), (a5, .inr (0, [.ref a33, .int 1, .int 1, .long 0, .int 1, .int 0, .long 0])), (a33, .inl (cJ, 256, .inr (.inl (vp_updL (fun _ => 0) 0 0)))), (a1, .inr (7, [.int 100, .int 100, .int 0, .ref a8, .ref a9, .int 0, .ref a10, .ref a11, .ref a12, .ref a13, .ref a14, .ref a15, .ref a16, .ref a17, .ref a18])), (a8, .inl (cI, 2, .inl (upd (upd (fun _ => 0) 0 16) 1 16)))]) (k_rV hC hN hK hP hD (c113_X9_edge l G cI cJ cB cZ a0 a1 a2 a3 a4 a5 a6 a7 x0) [0, 11] rfl (by decide) mi_X9_edge in_X9_edge se_X9_edge wm_X9_146 9 0 rfl rfl rfl hl.1 rfl rfl (Nat.le_of_ble_eq_true rfl) ⟨(Nat.le_of_ble_eq_true rfl), (Nat.le_of_ble_eq_true rfl)⟩ dX9_joined_72 ⟨(Nat.le_of_ble_eq_true rfl), (Nat.le_of_ble_eq_true rfl)⟩) hP hD hS hA [0, 11] [1, 2, 3, 4, 5, 6, 7, 8, 9, 10] rfl rfl (by decide) (by decide) (fun r8 u8 H locs hp hP hD hS => ?_)
  have hP : va_P G cl [(a9, .inl (cI, 2, .inl (upd (upd (fun _ => 0) 0 16) 1 16))), (a17, .inr (8, [.ref a19, .ref a20, .ref a21, .ref a22, .ref a23, .ref a24, .ref a25, .int 0])), (a3, .inr (8, [.ref a26, .ref a27, .ref a28, .ref a29, .ref a30, .ref a31, .ref a32, .int 0])), (a4, .inr (4, [.ref a1, .ref a5, .ref a35, .ref a36, .ref a37, .ref a38, .ref a39, .int 100, .int 0, .int 0, .int (-1)])), (a35, .inr (8, [.ref a40, .ref a41, .ref a42, .ref a43, .ref a44, .ref a45, .ref a46, .int 0])), (a36, .inl (cI, 7, .inl (fun _ => 0))), (a5, .inr (0, [.ref a33, .int 1, .int 1, .long 0, .int 1, .int 0, .long 0])), (a33, .inl (cJ, 256, .inr (.inl (vp_updL (fun _ => 0) 0 0)))), (a1, .inr (7, [.int 100, .int 100, .int 0, .ref a8, .ref a9, .int 0, .ref a10, .ref a11, .ref a12, .ref a13, .ref a14, .ref a15, .ref a16, .ref a17, .ref a18])), (a8, .inl (cI, 2, .inl (upd (upd (fun _ => 0) 0 16) 1 16))), (a0, .inr (9, [.ref a1, .ref a2, .ref a3, .int 0, .int 0, .ref a4, .ref a5, .ref a6, .ref a7])), (a7, .inr (1, [.int 1, .int 1000, .int 1000, .int 0, .int 0]))] H := hP
  have hD : va_D A [(a9, .inl (cI, 2, .inl (upd (upd (fun _ => 0) 0 16) 1 16))), (a17, .inr (8, [.ref a19, .ref a20, .ref a21, .ref a22, .ref a23, .ref a24, .ref a25, .int 0])), (a3, .inr (8, [.ref a26, .ref a27, .ref a28, .ref a29, .ref a30, .ref a31, .ref a32, .int 0])), (a4, .inr (4, [.ref a1, .ref a5, .ref a35, .ref a36, .ref a37, .ref a38, .ref a39, .int 100, .int 0, .int 0, .int (-1)])), (a35, .inr (8, [.ref a40, .ref a41, .ref a42, .ref a43, .ref a44, .ref a45, .ref a46, .int 0])), (a36, .inl (cI, 7, .inl (fun _ => 0))), (a5, .inr (0, [.ref a33, .int 1, .int 1, .long 0, .int 1, .int 0, .long 0])), (a33, .inl (cJ, 256, .inr (.inl (vp_updL (fun _ => 0) 0 0)))), (a1, .inr (7, [.int 100, .int 100, .int 0, .ref a8, .ref a9, .int 0, .ref a10, .ref a11, .ref a12, .ref a13, .ref a14, .ref a15, .ref a16, .ref a17, .ref a18])), (a8, .inl (cI, 2, .inl (upd (upd (fun _ => 0) 0 16) 1 16))), (a0, .inr (9, [.ref a1, .ref a2, .ref a3, .int 0, .int 0, .ref a4, .ref a5, .ref a6, .ref a7])), (a7, .inr (1, [.int 1, .int 1000, .int 1000, .int 0, .int 0]))] := hD
  subst hp
  exact k_iret hC hr hlk hK hP hD hS () [] rfl (by decide) rfl (Nat.le_of_ble_eq_true rfl) (Nat.le_of_ble_eq_true rfl) dX9_joined_75
theorem dX9_lieYear_0 : decode cX9_lieYear 0 = .ok (.aload_n 0, 1) := by decide +kernel
theorem dX9_lieYear_1 : decode cX9_lieYear 1 = .ok (.iload_n 1, 1) := by decide +kernel
theorem dX9_lieYear_2 : decode cX9_lieYear 2 = .ok (.invokevirtual 150, 3) := by decide +kernel
theorem dX9_lieYear_5 : decode cX9_lieYear 5 = .ok (.ifCond .ne 5, 3) := by decide +kernel
theorem dX9_lieYear_8 : decode cX9_lieYear 8 = .ok (.iconst (-1), 1) := by decide +kernel
theorem dX9_lieYear_9 : decode cX9_lieYear 9 = .ok (.ireturn, 1) := by decide +kernel
set_option maxHeartbeats 4000000 in
set_option maxRecDepth 100000 in
theorem c115_X9_lieYear (l : Launch) (G : va_G) (cI cJ cB cZ : ClassId) (a0 a1 a2 a3 a4 a5 a6 a7 a8 a9 a10 a11 a12 a13 a14 a15 a16 a17 a18 : Nat) (x0 : Int32) (x1 : Int32) : Con l G (TY cI cJ cB cZ) yX9_lieYear cX9_lieYear 5 (some .int) ({ frames := 1, cells := 0, slots := 0, locals := 21 } : Room) [.ref a0, .int x0, .int x1] [(a0, .inr (9, [.ref a1, .ref a2, .ref a3, .int 0, .int 0, .ref a4, .ref a5, .ref a6, .ref a7])), (a1, .inr (7, [.int 100, .int 100, .int 0, .ref a8, .ref a9, .int 0, .ref a10, .ref a11, .ref a12, .ref a13, .ref a14, .ref a15, .ref a16, .ref a17, .ref a18]))] (QI G (TY cI cJ cB cZ) (fun (r : Int32) (u : Unit) => r = (-1)) (fun u : Unit => [])) := by
  refine k_met (by decide) (Nat.le_of_ble_eq_true rfl) ?_
  intro p e s m below meth c A ls hC hr hlk hnm hN hK hA hP hD hS hl
  have hl : lv_has ls 5 [(0, .ref a0), (1, .int x0), (2, .int x1)] := hl
  obtain ⟨hx, hb, hml, hown, hts⟩ := id hC
  refine lv_aload_n hx hb dX9_lieYear_0 rfl (lv_at hl 0 rfl) ?_
  refine lv_iload_n hx hb dX9_lieYear_1 rfl (lv_at hl 1 rfl) ?_
  refine k_ci (wr := []) (k_rV hC hN hK hP hD (c87_X9_isStone l G cI cJ cB cZ a0 a1 a2 a3 a4 a5 a6 a7 a8 a9 a10 a11 a12 a13 a14 a15 a16 a17 a18 x0) [0, 1] rfl (by decide) mi_X9_isStone in_X9_isStone se_X9_isStone wm_X9_150 9 0 rfl rfl rfl hl.1 rfl rfl (Nat.le_of_ble_eq_true rfl) ⟨(Nat.le_of_ble_eq_true rfl), (Nat.le_of_ble_eq_true rfl)⟩ dX9_lieYear_2 ⟨(Nat.le_of_ble_eq_true rfl), (Nat.le_of_ble_eq_true rfl)⟩) hP hD hS hA [0, 1] [] rfl rfl (by decide) (by decide) (fun r1 u1 H locs hp hP hD hS => ?_)
  have hP : va_P G cl [(a0, .inr (9, [.ref a1, .ref a2, .ref a3, .int 0, .int 0, .ref a4, .ref a5, .ref a6, .ref a7])), (a1, .inr (7, [.int 100, .int 100, .int 0, .ref a8, .ref a9, .int 0, .ref a10, .ref a11, .ref a12, .ref a13, .ref a14, .ref a15, .ref a16, .ref a17, .ref a18]))] H := hP
  have hD : va_D A [(a0, .inr (9, [.ref a1, .ref a2, .ref a3, .int 0, .int 0, .ref a4, .ref a5, .ref a6, .ref a7])), (a1, .inr (7, [.int 100, .int 100, .int 0, .ref a8, .ref a9, .int 0, .ref a10, .ref a11, .ref a12, .ref a13, .ref a14, .ref a15, .ref a16, .ref a17, .ref a18]))] := hD
  subst hp
  refine lv_if_ne (tgt := 10) hx hb dX9_lieYear_5 (by decide) (fun c_ => absurd (by decide +kernel) c_) (fun _ => ?_)
  refine lv_iconst (v := (-1)) hx hb dX9_lieYear_8 (by decide) ?_
  exact k_iret hC hr hlk hK hP hD hS () [] rfl (by decide) rfl (Nat.le_of_ble_eq_true rfl) (Nat.le_of_ble_eq_true rfl) dX9_lieYear_9
theorem dX9_goods_0 : decode cX9_goods 0 = .ok (.aload_n 0, 1) := by decide +kernel
theorem dX9_goods_1 : decode cX9_goods 1 = .ok (.iload_n 1, 1) := by decide +kernel
theorem dX9_goods_2 : decode cX9_goods 2 = .ok (.invokevirtual 245, 3) := by decide +kernel
theorem dX9_goods_5 : decode cX9_goods 5 = .ok (.ifCond .eq 10, 3) := by decide +kernel
theorem dX9_goods_15 : decode cX9_goods 15 = .ok (.iconst (-1), 1) := by decide +kernel
theorem dX9_goods_16 : decode cX9_goods 16 = .ok (.ireturn, 1) := by decide +kernel
set_option maxHeartbeats 4000000 in
set_option maxRecDepth 100000 in
theorem c116_X9_goods (l : Launch) (G : va_G) (cI cJ cB cZ : ClassId) (a0 a1 a2 a3 a4 a5 a6 a7 a8 a9 a10 a11 a12 a13 a14 a15 a16 a17 a18 : Nat) (x0 : Int32) (x1 : Int32) (x2 : Int32) (x3 : Int32) (x4 : Int32) : Con l G (TY cI cJ cB cZ) yX9_goods cX9_goods 8 (some .int) ({ frames := 1, cells := 0, slots := 0, locals := 21 } : Room) [.ref a0, .int x0, .int x1, .int x2, .int x3, .int x4] [(a0, .inr (9, [.ref a1, .ref a2, .ref a3, .int 0, .int 0, .ref a4, .ref a5, .ref a6, .ref a7])), (a1, .inr (7, [.int 100, .int 100, .int 0, .ref a8, .ref a9, .int 0, .ref a10, .ref a11, .ref a12, .ref a13, .ref a14, .ref a15, .ref a16, .ref a17, .ref a18]))] (QI G (TY cI cJ cB cZ) (fun (r : Int32) (u : Unit) => r = (-1)) (fun u : Unit => [])) := by
  refine k_met (by decide) (Nat.le_of_ble_eq_true rfl) ?_
  intro p e s m below meth c A ls hC hr hlk hnm hN hK hA hP hD hS hl
  have hl : lv_has ls 8 [(0, .ref a0), (1, .int x0), (2, .int x1), (3, .int x2), (4, .int x3), (5, .int x4)] := hl
  obtain ⟨hx, hb, hml, hown, hts⟩ := id hC
  refine lv_aload_n hx hb dX9_goods_0 rfl (lv_at hl 0 rfl) ?_
  refine lv_iload_n hx hb dX9_goods_1 rfl (lv_at hl 1 rfl) ?_
  refine k_ci (wr := []) (k_rV hC hN hK hP hD (c30_X9_isPile l G cI cJ cB cZ a0 a1 a2 a3 a4 a5 a6 a7 a8 a9 a10 a11 a12 a13 a14 a15 a16 a17 a18 x0) [0, 1] rfl (by decide) mi_X9_isPile in_X9_isPile se_X9_isPile wm_X9_245 9 0 rfl rfl rfl hl.1 rfl rfl (Nat.le_of_ble_eq_true rfl) ⟨(Nat.le_of_ble_eq_true rfl), (Nat.le_of_ble_eq_true rfl)⟩ dX9_goods_2 ⟨(Nat.le_of_ble_eq_true rfl), (Nat.le_of_ble_eq_true rfl)⟩) hP hD hS hA [0, 1] [] rfl rfl (by decide) (by decide) (fun r1 u1 H locs hp hP hD hS => ?_)
  have hP : va_P G cl [(a0, .inr (9, [.ref a1, .ref a2, .ref a3, .int 0, .int 0, .ref a4, .ref a5, .ref a6, .ref a7])), (a1, .inr (7, [.int 100, .int 100, .int 0, .ref a8, .ref a9, .int 0, .ref a10, .ref a11, .ref a12, .ref a13, .ref a14, .ref a15, .ref a16, .ref a17, .ref a18]))] H := hP
  have hD : va_D A [(a0, .inr (9, [.ref a1, .ref a2, .ref a3, .int 0, .int 0, .ref a4, .ref a5, .ref a6, .ref a7])), (a1, .inr (7, [.int 100, .int 100, .int 0, .ref a8, .ref a9, .int 0, .ref a10, .ref a11, .ref a12, .ref a13, .ref a14, .ref a15, .ref a16, .ref a17, .ref a18]))] := hD
  subst hp
  refine lv_if_eq (tgt := 15) hx hb dX9_goods_5 (by decide) (fun _ => ?_) (fun c_ => absurd (by decide +kernel) c_)
  refine lv_iconst (v := (-1)) hx hb dX9_goods_15 (by decide) ?_
  exact k_iret hC hr hlk hK hP hD hS () [] rfl (by decide) rfl (Nat.le_of_ble_eq_true rfl) (Nat.le_of_ble_eq_true rfl) dX9_goods_16
theorem dX9_twice_0 : decode cX9_twice 0 = .ok (.aload_n 0, 1) := by decide +kernel
theorem dX9_twice_1 : decode cX9_twice 1 = .ok (.iload_n 1, 1) := by decide +kernel
theorem dX9_twice_2 : decode cX9_twice 2 = .ok (.invokevirtual 245, 3) := by decide +kernel
theorem dX9_twice_5 : decode cX9_twice 5 = .ok (.ifCond .eq 18, 3) := by decide +kernel
theorem dX9_twice_23 : decode cX9_twice 23 = .ok (.iconst (-1), 1) := by decide +kernel
theorem dX9_twice_24 : decode cX9_twice 24 = .ok (.ireturn, 1) := by decide +kernel
set_option maxHeartbeats 4000000 in
set_option maxRecDepth 100000 in
theorem c117_X9_twice (l : Launch) (G : va_G) (cI cJ cB cZ : ClassId) (a0 a1 a2 a3 a4 a5 a6 a7 a8 a9 a10 a11 a12 a13 a14 a15 a16 a17 a18 : Nat) (x0 : Int32) (x1 : Int32) (x2 : Int32) (x3 : Int32) (x4 : Int32) : Con l G (TY cI cJ cB cZ) yX9_twice cX9_twice 8 (some .int) ({ frames := 1, cells := 0, slots := 0, locals := 21 } : Room) [.ref a0, .int x0, .int x1, .int x2, .int x3, .int x4] [(a0, .inr (9, [.ref a1, .ref a2, .ref a3, .int 0, .int 0, .ref a4, .ref a5, .ref a6, .ref a7])), (a1, .inr (7, [.int 100, .int 100, .int 0, .ref a8, .ref a9, .int 0, .ref a10, .ref a11, .ref a12, .ref a13, .ref a14, .ref a15, .ref a16, .ref a17, .ref a18]))] (QI G (TY cI cJ cB cZ) (fun (r : Int32) (u : Unit) => r = (-1)) (fun u : Unit => [])) := by
  refine k_met (by decide) (Nat.le_of_ble_eq_true rfl) ?_
  intro p e s m below meth c A ls hC hr hlk hnm hN hK hA hP hD hS hl
  have hl : lv_has ls 8 [(0, .ref a0), (1, .int x0), (2, .int x1), (3, .int x2), (4, .int x3), (5, .int x4)] := hl
  obtain ⟨hx, hb, hml, hown, hts⟩ := id hC
  refine lv_aload_n hx hb dX9_twice_0 rfl (lv_at hl 0 rfl) ?_
  refine lv_iload_n hx hb dX9_twice_1 rfl (lv_at hl 1 rfl) ?_
  refine k_ci (wr := []) (k_rV hC hN hK hP hD (c30_X9_isPile l G cI cJ cB cZ a0 a1 a2 a3 a4 a5 a6 a7 a8 a9 a10 a11 a12 a13 a14 a15 a16 a17 a18 x0) [0, 1] rfl (by decide) mi_X9_isPile in_X9_isPile se_X9_isPile wm_X9_245 9 0 rfl rfl rfl hl.1 rfl rfl (Nat.le_of_ble_eq_true rfl) ⟨(Nat.le_of_ble_eq_true rfl), (Nat.le_of_ble_eq_true rfl)⟩ dX9_twice_2 ⟨(Nat.le_of_ble_eq_true rfl), (Nat.le_of_ble_eq_true rfl)⟩) hP hD hS hA [0, 1] [] rfl rfl (by decide) (by decide) (fun r1 u1 H locs hp hP hD hS => ?_)
  have hP : va_P G cl [(a0, .inr (9, [.ref a1, .ref a2, .ref a3, .int 0, .int 0, .ref a4, .ref a5, .ref a6, .ref a7])), (a1, .inr (7, [.int 100, .int 100, .int 0, .ref a8, .ref a9, .int 0, .ref a10, .ref a11, .ref a12, .ref a13, .ref a14, .ref a15, .ref a16, .ref a17, .ref a18]))] H := hP
  have hD : va_D A [(a0, .inr (9, [.ref a1, .ref a2, .ref a3, .int 0, .int 0, .ref a4, .ref a5, .ref a6, .ref a7])), (a1, .inr (7, [.int 100, .int 100, .int 0, .ref a8, .ref a9, .int 0, .ref a10, .ref a11, .ref a12, .ref a13, .ref a14, .ref a15, .ref a16, .ref a17, .ref a18]))] := hD
  subst hp
  refine lv_if_eq (tgt := 23) hx hb dX9_twice_5 (by decide) (fun _ => ?_) (fun c_ => absurd (by decide +kernel) c_)
  refine lv_iconst (v := (-1)) hx hb dX9_twice_23 (by decide) ?_
  exact k_iret hC hr hlk hK hP hD hS () [] rfl (by decide) rfl (Nat.le_of_ble_eq_true rfl) (Nat.le_of_ble_eq_true rfl) dX9_twice_24
theorem dX9_ratio_0 : decode cX9_ratio 0 = .ok (.aload_n 0, 1) := by decide +kernel
theorem dX9_ratio_1 : decode cX9_ratio 1 = .ok (.iload_n 1, 1) := by decide +kernel
theorem dX9_ratio_2 : decode cX9_ratio 2 = .ok (.invokevirtual 150, 3) := by decide +kernel
theorem dX9_ratio_5 : decode cX9_ratio 5 = .ok (.ifCond .eq 11, 3) := by decide +kernel
theorem dX9_ratio_16 : decode cX9_ratio 16 = .ok (.iconst (-1), 1) := by decide +kernel
theorem dX9_ratio_17 : decode cX9_ratio 17 = .ok (.ireturn, 1) := by decide +kernel
set_option maxHeartbeats 4000000 in
set_option maxRecDepth 100000 in
theorem c118_X9_ratio (l : Launch) (G : va_G) (cI cJ cB cZ : ClassId) (a0 a1 a2 a3 a4 a5 a6 a7 a8 a9 a10 a11 a12 a13 a14 a15 a16 a17 a18 : Nat) (x0 : Int32) (x1 : Int32) (x2 : Int32) (x3 : Int32) : Con l G (TY cI cJ cB cZ) yX9_ratio cX9_ratio 9 (some .int) ({ frames := 1, cells := 0, slots := 0, locals := 21 } : Room) [.ref a0, .int x0, .int x1, .int x2, .int x3] [(a0, .inr (9, [.ref a1, .ref a2, .ref a3, .int 0, .int 0, .ref a4, .ref a5, .ref a6, .ref a7])), (a1, .inr (7, [.int 100, .int 100, .int 0, .ref a8, .ref a9, .int 0, .ref a10, .ref a11, .ref a12, .ref a13, .ref a14, .ref a15, .ref a16, .ref a17, .ref a18]))] (QI G (TY cI cJ cB cZ) (fun (r : Int32) (u : Unit) => r = (-1)) (fun u : Unit => [])) := by
  refine k_met (by decide) (Nat.le_of_ble_eq_true rfl) ?_
  intro p e s m below meth c A ls hC hr hlk hnm hN hK hA hP hD hS hl
  have hl : lv_has ls 9 [(0, .ref a0), (1, .int x0), (2, .int x1), (3, .int x2), (4, .int x3)] := hl
  obtain ⟨hx, hb, hml, hown, hts⟩ := id hC
  refine lv_aload_n hx hb dX9_ratio_0 rfl (lv_at hl 0 rfl) ?_
  refine lv_iload_n hx hb dX9_ratio_1 rfl (lv_at hl 1 rfl) ?_
  refine k_ci (wr := []) (k_rV hC hN hK hP hD (c87_X9_isStone l G cI cJ cB cZ a0 a1 a2 a3 a4 a5 a6 a7 a8 a9 a10 a11 a12 a13 a14 a15 a16 a17 a18 x0) [0, 1] rfl (by decide) mi_X9_isStone in_X9_isStone se_X9_isStone wm_X9_150 9 0 rfl rfl rfl hl.1 rfl rfl (Nat.le_of_ble_eq_true rfl) ⟨(Nat.le_of_ble_eq_true rfl), (Nat.le_of_ble_eq_true rfl)⟩ dX9_ratio_2 ⟨(Nat.le_of_ble_eq_true rfl), (Nat.le_of_ble_eq_true rfl)⟩) hP hD hS hA [0, 1] [] rfl rfl (by decide) (by decide) (fun r1 u1 H locs hp hP hD hS => ?_)
  have hP : va_P G cl [(a0, .inr (9, [.ref a1, .ref a2, .ref a3, .int 0, .int 0, .ref a4, .ref a5, .ref a6, .ref a7])), (a1, .inr (7, [.int 100, .int 100, .int 0, .ref a8, .ref a9, .int 0, .ref a10, .ref a11, .ref a12, .ref a13, .ref a14, .ref a15, .ref a16, .ref a17, .ref a18]))] H := hP
  have hD : va_D A [(a0, .inr (9, [.ref a1, .ref a2, .ref a3, .int 0, .int 0, .ref a4, .ref a5, .ref a6, .ref a7])), (a1, .inr (7, [.int 100, .int 100, .int 0, .ref a8, .ref a9, .int 0, .ref a10, .ref a11, .ref a12, .ref a13, .ref a14, .ref a15, .ref a16, .ref a17, .ref a18]))] := hD
  subst hp
  refine lv_if_eq (tgt := 16) hx hb dX9_ratio_5 (by decide) (fun _ => ?_) (fun c_ => absurd (by decide +kernel) c_)
  refine lv_iconst (v := (-1)) hx hb dX9_ratio_16 (by decide) ?_
  exact k_iret hC hr hlk hK hP hD hS () [] rfl (by decide) rfl (Nat.le_of_ble_eq_true rfl) (Nat.le_of_ble_eq_true rfl) dX9_ratio_17
theorem dX9_sum_0 : decode cX9_sum 0 = .ok (.aload_n 0, 1) := by decide +kernel
theorem dX9_sum_1 : decode cX9_sum 1 = .ok (.iload_n 1, 1) := by decide +kernel
theorem dX9_sum_2 : decode cX9_sum 2 = .ok (.invokevirtual 245, 3) := by decide +kernel
theorem dX9_sum_5 : decode cX9_sum 5 = .ok (.ifCond .eq 10, 3) := by decide +kernel
theorem dX9_sum_15 : decode cX9_sum 15 = .ok (.iconst (-1), 1) := by decide +kernel
theorem dX9_sum_16 : decode cX9_sum 16 = .ok (.ireturn, 1) := by decide +kernel
set_option maxHeartbeats 4000000 in
set_option maxRecDepth 100000 in
theorem c119_X9_sum (l : Launch) (G : va_G) (cI cJ cB cZ : ClassId) (a0 a1 a2 a3 a4 a5 a6 a7 a8 a9 a10 a11 a12 a13 a14 a15 a16 a17 a18 : Nat) (x0 : Int32) (x1 : Int32) (x2 : Int32) (x3 : Int32) : Con l G (TY cI cJ cB cZ) yX9_sum cX9_sum 7 (some .int) ({ frames := 1, cells := 0, slots := 0, locals := 21 } : Room) [.ref a0, .int x0, .int x1, .int x2, .int x3] [(a0, .inr (9, [.ref a1, .ref a2, .ref a3, .int 0, .int 0, .ref a4, .ref a5, .ref a6, .ref a7])), (a1, .inr (7, [.int 100, .int 100, .int 0, .ref a8, .ref a9, .int 0, .ref a10, .ref a11, .ref a12, .ref a13, .ref a14, .ref a15, .ref a16, .ref a17, .ref a18]))] (QI G (TY cI cJ cB cZ) (fun (r : Int32) (u : Unit) => r = (-1)) (fun u : Unit => [])) := by
  refine k_met (by decide) (Nat.le_of_ble_eq_true rfl) ?_
  intro p e s m below meth c A ls hC hr hlk hnm hN hK hA hP hD hS hl
  have hl : lv_has ls 7 [(0, .ref a0), (1, .int x0), (2, .int x1), (3, .int x2), (4, .int x3)] := hl
  obtain ⟨hx, hb, hml, hown, hts⟩ := id hC
  refine lv_aload_n hx hb dX9_sum_0 rfl (lv_at hl 0 rfl) ?_
  refine lv_iload_n hx hb dX9_sum_1 rfl (lv_at hl 1 rfl) ?_
  refine k_ci (wr := []) (k_rV hC hN hK hP hD (c30_X9_isPile l G cI cJ cB cZ a0 a1 a2 a3 a4 a5 a6 a7 a8 a9 a10 a11 a12 a13 a14 a15 a16 a17 a18 x0) [0, 1] rfl (by decide) mi_X9_isPile in_X9_isPile se_X9_isPile wm_X9_245 9 0 rfl rfl rfl hl.1 rfl rfl (Nat.le_of_ble_eq_true rfl) ⟨(Nat.le_of_ble_eq_true rfl), (Nat.le_of_ble_eq_true rfl)⟩ dX9_sum_2 ⟨(Nat.le_of_ble_eq_true rfl), (Nat.le_of_ble_eq_true rfl)⟩) hP hD hS hA [0, 1] [] rfl rfl (by decide) (by decide) (fun r1 u1 H locs hp hP hD hS => ?_)
  have hP : va_P G cl [(a0, .inr (9, [.ref a1, .ref a2, .ref a3, .int 0, .int 0, .ref a4, .ref a5, .ref a6, .ref a7])), (a1, .inr (7, [.int 100, .int 100, .int 0, .ref a8, .ref a9, .int 0, .ref a10, .ref a11, .ref a12, .ref a13, .ref a14, .ref a15, .ref a16, .ref a17, .ref a18]))] H := hP
  have hD : va_D A [(a0, .inr (9, [.ref a1, .ref a2, .ref a3, .int 0, .int 0, .ref a4, .ref a5, .ref a6, .ref a7])), (a1, .inr (7, [.int 100, .int 100, .int 0, .ref a8, .ref a9, .int 0, .ref a10, .ref a11, .ref a12, .ref a13, .ref a14, .ref a15, .ref a16, .ref a17, .ref a18]))] := hD
  subst hp
  refine lv_if_eq (tgt := 15) hx hb dX9_sum_5 (by decide) (fun _ => ?_) (fun c_ => absurd (by decide +kernel) c_)
  refine lv_iconst (v := (-1)) hx hb dX9_sum_15 (by decide) ?_
  exact k_iret hC hr hlk hK hP hD hS () [] rfl (by decide) rfl (Nat.le_of_ble_eq_true rfl) (Nat.le_of_ble_eq_true rfl) dX9_sum_16
theorem dX4_traders_0 : decode cX4_traders 0 = .ok (.iconst 0, 1) := by decide +kernel
theorem dX4_traders_1 : decode cX4_traders 1 = .ok (.istore_n 1, 1) := by decide +kernel
theorem dX4_traders_2 : decode cX4_traders 2 = .ok (.iconst 0, 1) := by decide +kernel
theorem dX4_traders_3 : decode cX4_traders 3 = .ok (.istore_n 2, 1) := by decide +kernel
theorem dX4_traders_4 : decode cX4_traders 4 = .ok (.iload_n 2, 1) := by decide +kernel
theorem dX4_traders_5 : decode cX4_traders 5 = .ok (.aload_n 0, 1) := by decide +kernel
theorem dX4_traders_6 : decode cX4_traders 6 = .ok (.getfield 30, 3) := by decide +kernel
theorem dX4_traders_9 : decode cX4_traders 9 = .ok (.getfield 60, 3) := by decide +kernel
theorem dX4_traders_12 : decode cX4_traders 12 = .ok (.if_icmp .ge 23, 3) := by decide +kernel
theorem dX4_traders_35 : decode cX4_traders 35 = .ok (.iload_n 1, 1) := by decide +kernel
theorem dX4_traders_36 : decode cX4_traders 36 = .ok (.ireturn, 1) := by decide +kernel
set_option maxHeartbeats 4000000 in
set_option maxRecDepth 100000 in
theorem c120_X4_traders (l : Launch) (G : va_G) (cI cJ cB cZ : ClassId) (a0 a1 a2 a3 a4 a5 a6 a7 a8 a9 a10 a11 a12 a13 a14 : Nat) : Con l G (TY cI cJ cB cZ) yX4_traders cX4_traders 3 (some .int) ({ frames := 0, cells := 0, slots := 0, locals := 0 } : Room) [.ref a0] [(a0, .inr (4, [.ref a1, .ref a2, .ref a3, .ref a4, .ref a5, .ref a6, .ref a7, .int 100, .int 0, .int 0, .int (-1)])), (a3, .inr (8, [.ref a8, .ref a9, .ref a10, .ref a11, .ref a12, .ref a13, .ref a14, .int 0]))] (QI G (TY cI cJ cB cZ) (fun (r : Int32) (u : Unit) => r = 0) (fun u : Unit => [(a0, .inr (4, [.ref a1, .ref a2, .ref a3, .ref a4, .ref a5, .ref a6, .ref a7, .int 100, .int 0, .int 0, .int (-1)])), (a3, .inr (8, [.ref a8, .ref a9, .ref a10, .ref a11, .ref a12, .ref a13, .ref a14, .int 0]))])) := by
  refine k_met (by decide) (Nat.le_of_ble_eq_true rfl) ?_
  intro p e s m below meth c A ls hC hr hlk hnm hN hK hA hP hD hS hl
  have hl : lv_has ls 3 [(0, .ref a0)] := hl
  obtain ⟨hx, hb, hml, hown, hts⟩ := id hC
  refine lv_iconst (v := 0) hx hb dX4_traders_0 (by decide) ?_
  refine lv_istore_n (lv' := [(1, .int 0), (0, .ref a0)]) hx hb dX4_traders_1 rfl hl (by decide) rfl (fun ls hl => ?_)
  refine lv_iconst (v := 0) hx hb dX4_traders_2 (by decide) ?_
  refine lv_istore_n (lv' := [(2, .int 0), (1, .int 0), (0, .ref a0)]) hx hb dX4_traders_3 rfl hl (by decide) rfl (fun ls hl => ?_)
  refine lv_iload_n hx hb dX4_traders_4 rfl (lv_at hl 0 rfl) ?_
  refine lv_aload_n hx hb dX4_traders_5 rfl (lv_at hl 2 rfl) ?_
  refine k_get hC hK hP iX4 0 2 wf_X4_30 rfl (by decide) rfl rfl dX4_traders_6 ?_
  refine k_getN hC hN hK hP iX8 1 7 wf_X4_60 rfl (by decide) rfl rfl dX4_traders_9 ?_
  refine lv_icmp_ge (tgt := 35) hx hb dX4_traders_12 (by decide) (fun _ => ?_) (fun c_ => absurd (by decide +kernel) c_)
  refine lv_iload_n hx hb dX4_traders_35 rfl (lv_at hl 1 rfl) ?_
  exact k_iret hC hr hlk hK hP hD hS () [0, 1] rfl (by decide) rfl (Nat.le_of_ble_eq_true rfl) (Nat.le_of_ble_eq_true rfl) dX4_traders_36
theorem dX4_isBetter_0 : decode cX4_isBetter 0 = .ok (.aload_n 0, 1) := by decide +kernel
theorem dX4_isBetter_1 : decode cX4_isBetter 1 = .ok (.getfield 57, 3) := by decide +kernel
theorem dX4_isBetter_4 : decode cX4_isBetter 4 = .ok (.ifCond .ge 5, 3) := by decide +kernel
theorem dX4_isBetter_7 : decode cX4_isBetter 7 = .ok (.iconst 1, 1) := by decide +kernel
theorem dX4_isBetter_8 : decode cX4_isBetter 8 = .ok (.ireturn, 1) := by decide +kernel
set_option maxHeartbeats 4000000 in
set_option maxRecDepth 100000 in
theorem c121_X4_isBetter (l : Launch) (G : va_G) (cI cJ cB cZ : ClassId) (a0 a1 a2 a3 a4 a5 a6 a7 : Nat) : Con l G (TY cI cJ cB cZ) yX4_isBetter cX4_isBetter 3 (some .boolean) ({ frames := 0, cells := 0, slots := 0, locals := 0 } : Room) [.ref a0, .int 0] [(a0, .inr (4, [.ref a1, .ref a2, .ref a3, .ref a4, .ref a5, .ref a6, .ref a7, .int 100, .int 0, .int 0, .int (-1)]))] (QI G (TY cI cJ cB cZ) (fun (r : Int32) (u : Unit) => r = 1) (fun u : Unit => [(a0, .inr (4, [.ref a1, .ref a2, .ref a3, .ref a4, .ref a5, .ref a6, .ref a7, .int 100, .int 0, .int 0, .int (-1)]))])) := by
  refine k_met (by decide) (Nat.le_of_ble_eq_true rfl) ?_
  intro p e s m below meth c A ls hC hr hlk hnm hN hK hA hP hD hS hl
  have hl : lv_has ls 3 [(0, .ref a0), (1, .int 0)] := hl
  obtain ⟨hx, hb, hml, hown, hts⟩ := id hC
  refine lv_aload_n hx hb dX4_isBetter_0 rfl (lv_at hl 0 rfl) ?_
  refine k_get hC hK hP iX4 0 10 wf_X4_57 rfl (by decide) rfl rfl dX4_isBetter_1 ?_
  refine lv_if_ge (tgt := 9) hx hb dX4_isBetter_4 (by decide) (fun c_ => absurd c_ (by decide +kernel)) (fun _ => ?_)
  refine lv_iconst (v := 1) hx hb dX4_isBetter_7 (by decide) ?_
  exact k_zret hC hr hlk hK hP hD hS () [0] rfl (by decide) rfl rfl (Nat.le_of_ble_eq_true rfl) (Nat.le_of_ble_eq_true rfl) dX4_isBetter_8
theorem dX4_layBlaming_0 : decode cX4_layBlaming 0 = .ok (.aload_n 0, 1) := by decide +kernel
theorem dX4_layBlaming_1 : decode cX4_layBlaming 1 = .ok (.iload_n 2, 1) := by decide +kernel
theorem dX4_layBlaming_2 : decode cX4_layBlaming 2 = .ok (.invokevirtual 176, 3) := by decide +kernel
set_option maxRecDepth 100000 in
theorem wm_X4_176 : Cond.methodLink RX4 176 yX4_isBetter ∈ gw := gm (List.mem_of_getElem? (i := 851) (by decide +kernel)) rfl
set_option maxRecDepth 100000 in
theorem mi_X4_isBetter : MI yX4_isBetter cX4_isBetter 3 (some .boolean) 1 := ⟨gm (List.mem_of_getElem? (i := 854) rfl) rfl, gm (List.mem_of_getElem? (i := 120) (by decide +kernel)) rfl, by decide, by decide, by decide +kernel⟩
set_option maxRecDepth 100000 in
theorem in_X4_isBetter : Cond.instanceMethod yX4_isBetter ∈ gw := gm (List.mem_of_getElem? (i := 853) (by decide +kernel)) rfl
set_option maxRecDepth 100000 in
theorem se_X4_isBetter : Cond.selects yX4_isBetter.cls yX4_isBetter yX4_isBetter ∈ gw := gm (List.mem_of_getElem? (i := 27) (by decide +kernel)) rfl
theorem dX4_layBlaming_5 : decode cX4_layBlaming 5 = .ok (.ifCond .ne 4, 3) := by decide +kernel
theorem dX4_layBlaming_9 : decode cX4_layBlaming 9 = .ok (.iload_n 1, 1) := by decide +kernel
theorem dX4_layBlaming_10 : decode cX4_layBlaming 10 = .ok (.aload_n 0, 1) := by decide +kernel
theorem dX4_layBlaming_11 : decode cX4_layBlaming 11 = .ok (.getfield 12, 3) := by decide +kernel
theorem dX4_layBlaming_14 : decode cX4_layBlaming 14 = .ok (.getfield 109, 3) := by decide +kernel
theorem dX4_layBlaming_17 : decode cX4_layBlaming 17 = .ok (.if_icmp .ge 9, 3) := by decide +kernel
theorem dX4_layBlaming_26 : decode cX4_layBlaming 26 = .ok (.aload_n 0, 1) := by decide +kernel
theorem dX4_layBlaming_27 : decode cX4_layBlaming 27 = .ok (.iload_n 2, 1) := by decide +kernel
theorem dX4_layBlaming_28 : decode cX4_layBlaming 28 = .ok (.putfield 57, 3) := by decide +kernel
theorem dX4_layBlaming_31 : decode cX4_layBlaming 31 = .ok (.return_, 1) := by decide +kernel
set_option maxHeartbeats 4000000 in
set_option maxRecDepth 100000 in
theorem c122_X4_layBlaming (l : Launch) (G : va_G) (cI cJ cB cZ : ClassId) (a0 a1 a2 a3 a4 a5 a6 a7 a8 a9 a10 a11 a12 a13 a14 a15 a16 a17 a18 : Nat) : Con l G (TY cI cJ cB cZ) yX4_layBlaming cX4_layBlaming 4 none ({ frames := 1, cells := 0, slots := 0, locals := 22 } : Room) [.ref a0, .int 0, .int 0] [(a0, .inr (4, [.ref a1, .ref a2, .ref a3, .ref a4, .ref a5, .ref a6, .ref a7, .int 100, .int 0, .int 0, .int (-1)])), (a1, .inr (7, [.int 100, .int 100, .int 0, .ref a8, .ref a9, .int 0, .ref a10, .ref a11, .ref a12, .ref a13, .ref a14, .ref a15, .ref a16, .ref a17, .ref a18]))] (QV G (TY cI cJ cB cZ) (fun u : Unit => True) (fun u : Unit => [(a0, .inr (4, [.ref a1, .ref a2, .ref a3, .ref a4, .ref a5, .ref a6, .ref a7, .int 100, .int 0, .int 0, .int 0])), (a1, .inr (7, [.int 100, .int 100, .int 0, .ref a8, .ref a9, .int 0, .ref a10, .ref a11, .ref a12, .ref a13, .ref a14, .ref a15, .ref a16, .ref a17, .ref a18]))])) := by
  refine k_met (by decide) (Nat.le_of_ble_eq_true rfl) ?_
  intro p e s m below meth c A ls hC hr hlk hnm hN hK hA hP hD hS hl
  have hl : lv_has ls 4 [(0, .ref a0), (1, .int 0), (2, .int 0)] := hl
  obtain ⟨hx, hb, hml, hown, hts⟩ := id hC
  refine lv_aload_n hx hb dX4_layBlaming_0 rfl (lv_at hl 0 rfl) ?_
  refine lv_iload_n hx hb dX4_layBlaming_1 rfl (lv_at hl 2 rfl) ?_
  refine k_ci (wr := [(a1, .inr (7, [.int 100, .int 100, .int 0, .ref a8, .ref a9, .int 0, .ref a10, .ref a11, .ref a12, .ref a13, .ref a14, .ref a15, .ref a16, .ref a17, .ref a18]))]) (k_rV hC hN hK hP hD (c121_X4_isBetter l G cI cJ cB cZ a0 a1 a2 a3 a4 a5 a6 a7) [0] rfl (by decide) mi_X4_isBetter in_X4_isBetter se_X4_isBetter wm_X4_176 4 0 rfl rfl rfl hl.1 rfl rfl (Nat.le_of_ble_eq_true rfl) ⟨(Nat.le_of_ble_eq_true rfl), (Nat.le_of_ble_eq_true rfl)⟩ dX4_layBlaming_2 ⟨(Nat.le_of_ble_eq_true rfl), (Nat.le_of_ble_eq_true rfl)⟩) hP hD hS hA [0] [1] rfl rfl (by decide) (by decide) (fun r1 u1 H locs hp hP hD hS => ?_)
  have hP : va_P G cl [(a1, .inr (7, [.int 100, .int 100, .int 0, .ref a8, .ref a9, .int 0, .ref a10, .ref a11, .ref a12, .ref a13, .ref a14, .ref a15, .ref a16, .ref a17, .ref a18])), (a0, .inr (4, [.ref a1, .ref a2, .ref a3, .ref a4, .ref a5, .ref a6, .ref a7, .int 100, .int 0, .int 0, .int (-1)]))] H := hP
  have hD : va_D A [(a1, .inr (7, [.int 100, .int 100, .int 0, .ref a8, .ref a9, .int 0, .ref a10, .ref a11, .ref a12, .ref a13, .ref a14, .ref a15, .ref a16, .ref a17, .ref a18])), (a0, .inr (4, [.ref a1, .ref a2, .ref a3, .ref a4, .ref a5, .ref a6, .ref a7, .int 100, .int 0, .int 0, .int (-1)]))] := hD
  subst hp
  refine lv_if_ne (tgt := 9) hx hb dX4_layBlaming_5 (by decide) (fun _ => ?_) (fun c_ => absurd c_ (by decide +kernel))
  refine lv_iload_n hx hb dX4_layBlaming_9 rfl (lv_at hl 1 rfl) ?_
  refine lv_aload_n hx hb dX4_layBlaming_10 rfl (lv_at hl 0 rfl) ?_
  refine k_get hC hK hP iX4 1 0 wf_X4_12 rfl (by decide) rfl rfl dX4_layBlaming_11 ?_
  refine k_getN hC hN hK hP iX7 0 5 wf_X4_109 rfl (by decide) rfl rfl dX4_layBlaming_14 ?_
  refine lv_icmp_ge (tgt := 26) hx hb dX4_layBlaming_17 (by decide) (fun _ => ?_) (fun c_ => absurd (by decide +kernel) c_)
  refine lv_aload_n hx hb dX4_layBlaming_26 rfl (lv_at hl 0 rfl) ?_
  refine lv_iload_n hx hb dX4_layBlaming_27 rfl (lv_at hl 2 rfl) ?_
  refine k_put hC hK hP hD hS iX4 tyX4_ok nmX4 1 10 wf_X4_57 rfl (by decide) rfl rfl rfl rfl (Nat.le_of_ble_eq_true rfl) dX4_layBlaming_28 (fun H locs hP hD hS => ?_)
  have hP : va_P G cl [(a1, .inr (7, [.int 100, .int 100, .int 0, .ref a8, .ref a9, .int 0, .ref a10, .ref a11, .ref a12, .ref a13, .ref a14, .ref a15, .ref a16, .ref a17, .ref a18])), (a0, .inr (4, [.ref a1, .ref a2, .ref a3, .ref a4, .ref a5, .ref a6, .ref a7, .int 100, .int 0, .int 0, .int 0]))] H := hP
  have hD : va_D A [(a1, .inr (7, [.int 100, .int 100, .int 0, .ref a8, .ref a9, .int 0, .ref a10, .ref a11, .ref a12, .ref a13, .ref a14, .ref a15, .ref a16, .ref a17, .ref a18])), (a0, .inr (4, [.ref a1, .ref a2, .ref a3, .ref a4, .ref a5, .ref a6, .ref a7, .int 100, .int 0, .int 0, .int 0]))] := hD
  exact k_vret hC hr hlk hK hP hD hS () [1, 0] rfl (by decide) trivial (Nat.le_of_ble_eq_true rfl) (Nat.le_of_ble_eq_true rfl) dX4_layBlaming_31
theorem dX4_goThrough_94 : decode cX4_goThrough 94 = .ok (.aload_n 0, 1) := by decide +kernel
theorem dX4_goThrough_95 : decode cX4_goThrough 95 = .ok (.iconst 0, 1) := by decide +kernel
theorem dX4_goThrough_96 : decode cX4_goThrough 96 = .ok (.iconst 0, 1) := by decide +kernel
theorem dX4_goThrough_97 : decode cX4_goThrough 97 = .ok (.invokevirtual 97, 3) := by decide +kernel
set_option maxRecDepth 100000 in
theorem wm_X4_97 : Cond.methodLink RX4 97 yX4_layBlaming ∈ gw := gm (List.mem_of_getElem? (i := 847) (by decide +kernel)) rfl
set_option maxRecDepth 100000 in
theorem mi_X4_layBlaming : MI yX4_layBlaming cX4_layBlaming 4 none 2 := ⟨gm (List.mem_of_getElem? (i := 850) rfl) rfl, gm (List.mem_of_getElem? (i := 120) (by decide +kernel)) rfl, by decide, by decide, by decide +kernel⟩
set_option maxRecDepth 100000 in
theorem in_X4_layBlaming : Cond.instanceMethod yX4_layBlaming ∈ gw := gm (List.mem_of_getElem? (i := 849) (by decide +kernel)) rfl
set_option maxRecDepth 100000 in
theorem se_X4_layBlaming : Cond.selects yX4_layBlaming.cls yX4_layBlaming yX4_layBlaming ∈ gw := gm (List.mem_of_getElem? (i := 26) (by decide +kernel)) rfl
theorem dX4_goThrough_100 : decode cX4_goThrough 100 = .ok (.goto 43, 3) := by decide +kernel
set_option maxHeartbeats 4000000 in
set_option maxRecDepth 100000 in
theorem c123_X4_goThrough (l : Launch) (G : va_G) (cI cJ cB cZ : ClassId) (a0 a1 a2 a3 a4 a5 a6 a7 a8 a9 a10 a11 a12 a13 a14 a15 a16 a17 a18 : Nat) : Con l G (TY cI cJ cB cZ) yX4_goThrough cX4_goThrough 5 none ({ frames := 2, cells := 0, slots := 0, locals := 45 } : Room) [.ref a0, .int 1] [(a0, .inr (4, [.ref a1, .ref a2, .ref a3, .ref a4, .ref a5, .ref a6, .ref a7, .int 100, .int 0, .int 0, .int (-1)])), (a1, .inr (7, [.int 100, .int 100, .int 0, .ref a8, .ref a9, .int 0, .ref a10, .ref a11, .ref a12, .ref a13, .ref a14, .ref a15, .ref a16, .ref a17, .ref a18])), (a8, .inl (cI, 2, .inl (upd (upd (fun _ => 0) 0 16) 1 16))), (a9, .inl (cI, 2, .inl (upd (upd (fun _ => 0) 0 16) 1 16)))] (QV G (TY cI cJ cB cZ) (fun u : Unit => True) (fun u : Unit => [(a0, .inr (4, [.ref a1, .ref a2, .ref a3, .ref a4, .ref a5, .ref a6, .ref a7, .int 100, .int 0, .int 0, .int 0])), (a1, .inr (7, [.int 100, .int 100, .int 0, .ref a8, .ref a9, .int 0, .ref a10, .ref a11, .ref a12, .ref a13, .ref a14, .ref a15, .ref a16, .ref a17, .ref a18])), (a8, .inl (cI, 2, .inl (upd (upd (fun _ => 0) 0 16) 1 16))), (a9, .inl (cI, 2, .inl (upd (upd (fun _ => 0) 0 16) 1 16)))])) := by
  refine k_met (by decide) (Nat.le_of_ble_eq_true rfl) ?_
  intro p e s m below meth c A ls hC hr hlk hnm hN hK hA hP hD hS hl
  have hl : lv_has ls 5 [(0, .ref a0), (1, .int 1)] := hl
  obtain ⟨hx, hb, hml, hown, hts⟩ := id hC
  refine lv_aload_n hx hb dX4_goThrough_0 rfl (lv_at hl 0 rfl) ?_
  refine lv_iconst (v := (-1)) hx hb dX4_goThrough_1 (by decide) ?_
  refine k_put hC hK hP hD hS iX4 tyX4_ok nmX4 0 10 wf_X4_57 rfl (by decide) rfl rfl rfl rfl (Nat.le_of_ble_eq_true rfl) dX4_goThrough_2 (fun H locs hP hD hS => ?_)
  have hP : va_P G cl [(a0, .inr (4, [.ref a1, .ref a2, .ref a3, .ref a4, .ref a5, .ref a6, .ref a7, .int 100, .int 0, .int 0, .int (-1)])), (a1, .inr (7, [.int 100, .int 100, .int 0, .ref a8, .ref a9, .int 0, .ref a10, .ref a11, .ref a12, .ref a13, .ref a14, .ref a15, .ref a16, .ref a17, .ref a18])), (a8, .inl (cI, 2, .inl (upd (upd (fun _ => 0) 0 16) 1 16))), (a9, .inl (cI, 2, .inl (upd (upd (fun _ => 0) 0 16) 1 16)))] H := hP
  have hD : va_D A [(a0, .inr (4, [.ref a1, .ref a2, .ref a3, .ref a4, .ref a5, .ref a6, .ref a7, .int 100, .int 0, .int 0, .int (-1)])), (a1, .inr (7, [.int 100, .int 100, .int 0, .ref a8, .ref a9, .int 0, .ref a10, .ref a11, .ref a12, .ref a13, .ref a14, .ref a15, .ref a16, .ref a17, .ref a18])), (a8, .inl (cI, 2, .inl (upd (upd (fun _ => 0) 0 16) 1 16))), (a9, .inl (cI, 2, .inl (upd (upd (fun _ => 0) 0 16) 1 16)))] := hD
  refine lv_aload_n hx hb dX4_goThrough_5 rfl (lv_at hl 0 rfl) ?_
  refine k_get hC hK hP iX4 0 0 wf_X4_12 rfl (by decide) rfl rfl dX4_goThrough_6 ?_
  refine k_getN hC hN hK hP iX7 1 0 wf_X4_81 rfl (by decide) rfl rfl dX4_goThrough_9 ?_
  refine lv_istore_n (lv' := [(2, .int 100), (0, .ref a0), (1, .int 1)]) hx hb dX4_goThrough_12 rfl hl (by decide) rfl (fun ls hl => ?_)
  refine lv_iload_n hx hb dX4_goThrough_13 rfl (lv_at hl 0 rfl) ?_
  refine lv_aload_n hx hb dX4_goThrough_14 rfl (lv_at hl 1 rfl) ?_
  refine k_get hC hK hP iX4 0 0 wf_X4_12 rfl (by decide) rfl rfl dX4_goThrough_15 ?_
  refine k_getN hC hN hK hP iX7 1 1 wf_X4_84 rfl (by decide) rfl rfl dX4_goThrough_18 ?_
  refine lv_icmp_gt (tgt := 161) hx hb dX4_goThrough_21 (by decide) (fun c_ => absurd c_ (by decide +kernel)) (fun _ => ?_)
  refine lv_aload_n hx hb dX4_goThrough_24 rfl (lv_at hl 1 rfl) ?_
  refine lv_iload_n hx hb dX4_goThrough_25 rfl (lv_at hl 0 rfl) ?_
  refine k_put hC hK hP hD hS iX4 tyX4_ok nmX4 0 7 wf_X4_47 rfl (by decide) rfl rfl rfl rfl (Nat.le_of_ble_eq_true rfl) dX4_goThrough_26 (fun H locs hP hD hS => ?_)
  have hP : va_P G cl [(a0, .inr (4, [.ref a1, .ref a2, .ref a3, .ref a4, .ref a5, .ref a6, .ref a7, .int 100, .int 0, .int 0, .int (-1)])), (a1, .inr (7, [.int 100, .int 100, .int 0, .ref a8, .ref a9, .int 0, .ref a10, .ref a11, .ref a12, .ref a13, .ref a14, .ref a15, .ref a16, .ref a17, .ref a18])), (a8, .inl (cI, 2, .inl (upd (upd (fun _ => 0) 0 16) 1 16))), (a9, .inl (cI, 2, .inl (upd (upd (fun _ => 0) 0 16) 1 16)))] H := hP
  have hD : va_D A [(a0, .inr (4, [.ref a1, .ref a2, .ref a3, .ref a4, .ref a5, .ref a6, .ref a7, .int 100, .int 0, .int 0, .int (-1)])), (a1, .inr (7, [.int 100, .int 100, .int 0, .ref a8, .ref a9, .int 0, .ref a10, .ref a11, .ref a12, .ref a13, .ref a14, .ref a15, .ref a16, .ref a17, .ref a18])), (a8, .inl (cI, 2, .inl (upd (upd (fun _ => 0) 0 16) 1 16))), (a9, .inl (cI, 2, .inl (upd (upd (fun _ => 0) 0 16) 1 16)))] := hD
  refine lv_aload_n hx hb dX4_goThrough_29 rfl (lv_at hl 1 rfl) ?_
  refine k_get hC hK hP iX4 0 0 wf_X4_12 rfl (by decide) rfl rfl dX4_goThrough_30 ?_
  refine k_getN hC hN hK hP iX7 1 3 wf_X4_87 rfl (by decide) rfl rfl dX4_goThrough_33 ?_
  refine lv_iconst (v := 0) hx hb dX4_goThrough_36 (by decide) ?_
  refine k_iald (v := 16) hC hK hP 2 0 rfl (by decide +kernel) (by decide) (by decide +kernel) dX4_goThrough_37 ?_
  refine lv_istore_n (lv' := [(3, .int 16), (2, .int 100), (0, .ref a0), (1, .int 1)]) hx hb dX4_goThrough_38 rfl hl (by decide) rfl (fun ls hl => ?_)
  refine lv_iload_n hx hb dX4_goThrough_39 rfl (lv_at hl 0 rfl) ?_
  refine lv_aload_n hx hb dX4_goThrough_40 rfl (lv_at hl 2 rfl) ?_
  refine k_get hC hK hP iX4 0 0 wf_X4_12 rfl (by decide) rfl rfl dX4_goThrough_41 ?_
  refine k_getN hC hN hK hP iX7 1 4 wf_X4_90 rfl (by decide) rfl rfl dX4_goThrough_44 ?_
  refine lv_iconst (v := 0) hx hb dX4_goThrough_47 (by decide) ?_
  refine k_iald (v := 16) hC hK hP 3 0 rfl (by decide +kernel) (by decide) (by decide +kernel) dX4_goThrough_48 ?_
  refine lv_icmp_gt (tgt := 155) hx hb dX4_goThrough_49 (by decide) (fun c_ => absurd c_ (by decide +kernel)) (fun _ => ?_)
  refine lv_aload_n hx hb dX4_goThrough_52 rfl (lv_at hl 2 rfl) ?_
  refine k_get hC hK hP iX4 0 0 wf_X4_12 rfl (by decide) rfl rfl dX4_goThrough_53 ?_
  refine k_getN hC hN hK hP iX7 1 3 wf_X4_87 rfl (by decide) rfl rfl dX4_goThrough_56 ?_
  refine lv_iconst (v := 1) hx hb dX4_goThrough_59 (by decide) ?_
  refine k_iald (v := 16) hC hK hP 2 1 rfl (by decide +kernel) (by decide) (by decide +kernel) dX4_goThrough_60 ?_
  refine lv_istore (lv' := [(4, .int 16), (3, .int 16), (2, .int 100), (0, .ref a0), (1, .int 1)]) hx hb dX4_goThrough_61 hl (by decide) rfl (fun ls hl => ?_)
  refine lv_iload hx hb dX4_goThrough_63 (lv_at hl 0 rfl) ?_
  refine lv_aload_n hx hb dX4_goThrough_65 rfl (lv_at hl 3 rfl) ?_
  refine k_get hC hK hP iX4 0 0 wf_X4_12 rfl (by decide) rfl rfl dX4_goThrough_66 ?_
  refine k_getN hC hN hK hP iX7 1 4 wf_X4_90 rfl (by decide) rfl rfl dX4_goThrough_69 ?_
  refine lv_iconst (v := 1) hx hb dX4_goThrough_72 (by decide) ?_
  refine k_iald (v := 16) hC hK hP 3 1 rfl (by decide +kernel) (by decide) (by decide +kernel) dX4_goThrough_73 ?_
  refine lv_icmp_gt (tgt := 149) hx hb dX4_goThrough_74 (by decide) (fun c_ => absurd c_ (by decide +kernel)) (fun _ => ?_)
  refine lv_aload_n hx hb dX4_goThrough_77 rfl (lv_at hl 3 rfl) ?_
  refine lv_iload_n hx hb dX4_goThrough_78 rfl (lv_at hl 1 rfl) ?_
  refine lv_iload hx hb dX4_goThrough_79 (lv_at hl 0 rfl) ?_
  refine k_ci (wr := [(a8, .inl (cI, 2, .inl (upd (upd (fun _ => 0) 0 16) 1 16))), (a9, .inl (cI, 2, .inl (upd (upd (fun _ => 0) 0 16) 1 16)))]) (k_rV hC hN hK hP hD (c60_X4_setSpans l G cI cJ cB cZ a0 a1 a2 a3 a4 a5 a6 a7 a8 a9 a10 a11 a12 a13 a14 a15 a16 a17 a18) [0, 1] rfl (by decide) mi_X4_setSpans in_X4_setSpans se_X4_setSpans wm_X4_93 4 0 rfl rfl rfl hl.1 rfl rfl (Nat.le_of_ble_eq_true rfl) ⟨(Nat.le_of_ble_eq_true rfl), (Nat.le_of_ble_eq_true rfl)⟩ dX4_goThrough_81 ⟨(Nat.le_of_ble_eq_true rfl), (Nat.le_of_ble_eq_true rfl)⟩) hP hD hS hA [0, 1] [2, 3] rfl rfl (by decide) (by decide) (fun r1 u1 H locs hp hP hD hS => ?_)
  have hP : va_P G cl [(a8, .inl (cI, 2, .inl (upd (upd (fun _ => 0) 0 16) 1 16))), (a9, .inl (cI, 2, .inl (upd (upd (fun _ => 0) 0 16) 1 16))), (a0, .inr (4, [.ref a1, .ref a2, .ref a3, .ref a4, .ref a5, .ref a6, .ref a7, .int 100, .int 0, .int 0, .int (-1)])), (a1, .inr (7, [.int 100, .int 100, .int 0, .ref a8, .ref a9, .int 0, .ref a10, .ref a11, .ref a12, .ref a13, .ref a14, .ref a15, .ref a16, .ref a17, .ref a18]))] H := hP
  have hD : va_D A [(a8, .inl (cI, 2, .inl (upd (upd (fun _ => 0) 0 16) 1 16))), (a9, .inl (cI, 2, .inl (upd (upd (fun _ => 0) 0 16) 1 16))), (a0, .inr (4, [.ref a1, .ref a2, .ref a3, .ref a4, .ref a5, .ref a6, .ref a7, .int 100, .int 0, .int 0, .int (-1)])), (a1, .inr (7, [.int 100, .int 100, .int 0, .ref a8, .ref a9, .int 0, .ref a10, .ref a11, .ref a12, .ref a13, .ref a14, .ref a15, .ref a16, .ref a17, .ref a18]))] := hD
  subst hp
  refine lv_if_ne (tgt := 90) hx hb dX4_goThrough_84 (by decide) (fun _ => ?_) (fun c_ => absurd c_ (by decide +kernel))
  refine lv_iload_n hx hb dX4_goThrough_90 rfl (lv_at hl 4 rfl) ?_
  refine lv_if_eq (tgt := 103) hx hb dX4_goThrough_91 (by decide) (fun c_ => absurd c_ (by decide +kernel)) (fun _ => ?_)
  refine lv_aload_n hx hb dX4_goThrough_94 rfl (lv_at hl 3 rfl) ?_
  refine lv_iconst (v := 0) hx hb dX4_goThrough_95 (by decide) ?_
  refine lv_iconst (v := 0) hx hb dX4_goThrough_96 (by decide) ?_
  refine k_cv (wr := [(a8, .inl (cI, 2, .inl (upd (upd (fun _ => 0) 0 16) 1 16))), (a9, .inl (cI, 2, .inl (upd (upd (fun _ => 0) 0 16) 1 16)))]) (k_rV hC hN hK hP hD (c122_X4_layBlaming l G cI cJ cB cZ a0 a1 a2 a3 a4 a5 a6 a7 a8 a9 a10 a11 a12 a13 a14 a15 a16 a17 a18) [2, 3] rfl (by decide) mi_X4_layBlaming in_X4_layBlaming se_X4_layBlaming wm_X4_97 4 2 rfl rfl rfl hl.1 rfl rfl (Nat.le_of_ble_eq_true rfl) ⟨(Nat.le_of_ble_eq_true rfl), (Nat.le_of_ble_eq_true rfl)⟩ dX4_goThrough_97 ⟨(Nat.le_of_ble_eq_true rfl), (Nat.le_of_ble_eq_true rfl)⟩) hP hD hS hA [2, 3] [0, 1] rfl rfl (by decide) (by decide) (fun u2 H locs hp hP hD hS => ?_)
  have hP : va_P G cl [(a8, .inl (cI, 2, .inl (upd (upd (fun _ => 0) 0 16) 1 16))), (a9, .inl (cI, 2, .inl (upd (upd (fun _ => 0) 0 16) 1 16))), (a0, .inr (4, [.ref a1, .ref a2, .ref a3, .ref a4, .ref a5, .ref a6, .ref a7, .int 100, .int 0, .int 0, .int 0])), (a1, .inr (7, [.int 100, .int 100, .int 0, .ref a8, .ref a9, .int 0, .ref a10, .ref a11, .ref a12, .ref a13, .ref a14, .ref a15, .ref a16, .ref a17, .ref a18]))] H := hP
  have hD : va_D A [(a8, .inl (cI, 2, .inl (upd (upd (fun _ => 0) 0 16) 1 16))), (a9, .inl (cI, 2, .inl (upd (upd (fun _ => 0) 0 16) 1 16))), (a0, .inr (4, [.ref a1, .ref a2, .ref a3, .ref a4, .ref a5, .ref a6, .ref a7, .int 100, .int 0, .int 0, .int 0])), (a1, .inr (7, [.int 100, .int 100, .int 0, .ref a8, .ref a9, .int 0, .ref a10, .ref a11, .ref a12, .ref a13, .ref a14, .ref a15, .ref a16, .ref a17, .ref a18]))] := hD
  refine lv_goto (tgt := 143) hx hb dX4_goThrough_100 (by decide) ?_
  refine lv_iinc (v := 17) (lv' := [(4, .int 17), (3, .int 16), (2, .int 100), (0, .ref a0), (1, .int 1)]) hx hb dX4_goThrough_143 hl (k := 0) rfl (by decide +kernel) (by decide) rfl (fun ls hl => ?_)
  refine lv_goto (tgt := 63) hx hb dX4_goThrough_146 (by decide) ?_
  refine lv_iload hx hb dX4_goThrough_63 (lv_at hl 0 rfl) ?_
  refine lv_aload_n hx hb dX4_goThrough_65 rfl (lv_at hl 3 rfl) ?_
  refine k_get hC hK hP iX4 2 0 wf_X4_12 rfl (by decide) rfl rfl dX4_goThrough_66 ?_
  refine k_getN hC hN hK hP iX7 3 4 wf_X4_90 rfl (by decide) rfl rfl dX4_goThrough_69 ?_
  refine lv_iconst (v := 1) hx hb dX4_goThrough_72 (by decide) ?_
  refine k_iald (v := 16) hC hK hP 1 1 rfl (by decide +kernel) (by decide) (by decide +kernel) dX4_goThrough_73 ?_
  refine lv_icmp_gt (tgt := 149) hx hb dX4_goThrough_74 (by decide) (fun _ => ?_) (fun c_ => absurd (by decide +kernel) c_)
  refine lv_iinc (v := 17) (lv' := [(3, .int 17), (4, .int 17), (2, .int 100), (0, .ref a0), (1, .int 1)]) hx hb dX4_goThrough_149 hl (k := 1) rfl (by decide +kernel) (by decide) rfl (fun ls hl => ?_)
  refine lv_goto (tgt := 39) hx hb dX4_goThrough_152 (by decide) ?_
  refine lv_iload_n hx hb dX4_goThrough_39 rfl (lv_at hl 0 rfl) ?_
  refine lv_aload_n hx hb dX4_goThrough_40 rfl (lv_at hl 3 rfl) ?_
  refine k_get hC hK hP iX4 2 0 wf_X4_12 rfl (by decide) rfl rfl dX4_goThrough_41 ?_
  refine k_getN hC hN hK hP iX7 3 4 wf_X4_90 rfl (by decide) rfl rfl dX4_goThrough_44 ?_
  refine lv_iconst (v := 0) hx hb dX4_goThrough_47 (by decide) ?_
  refine k_iald (v := 16) hC hK hP 1 0 rfl (by decide +kernel) (by decide) (by decide +kernel) dX4_goThrough_48 ?_
  refine lv_icmp_gt (tgt := 155) hx hb dX4_goThrough_49 (by decide) (fun _ => ?_) (fun c_ => absurd (by decide +kernel) c_)
  refine lv_iinc (v := 101) (lv' := [(2, .int 101), (3, .int 17), (4, .int 17), (0, .ref a0), (1, .int 1)]) hx hb dX4_goThrough_155 hl (k := 2) rfl (by decide +kernel) (by decide) rfl (fun ls hl => ?_)
  refine lv_goto (tgt := 13) hx hb dX4_goThrough_158 (by decide) ?_
  refine lv_iload_n hx hb dX4_goThrough_13 rfl (lv_at hl 0 rfl) ?_
  refine lv_aload_n hx hb dX4_goThrough_14 rfl (lv_at hl 3 rfl) ?_
  refine k_get hC hK hP iX4 2 0 wf_X4_12 rfl (by decide) rfl rfl dX4_goThrough_15 ?_
  refine k_getN hC hN hK hP iX7 3 1 wf_X4_84 rfl (by decide) rfl rfl dX4_goThrough_18 ?_
  refine lv_icmp_gt (tgt := 161) hx hb dX4_goThrough_21 (by decide) (fun _ => ?_) (fun c_ => absurd (by decide +kernel) c_)
  exact k_vret hC hr hlk hK hP hD hS () [2, 3, 0, 1] rfl (by decide) trivial (Nat.le_of_ble_eq_true rfl) (Nat.le_of_ble_eq_true rfl) dX4_goThrough_161
theorem dX9_thumbs_0 : decode cX9_thumbs 0 = .ok (.aload_n 0, 1) := by decide +kernel
theorem dX9_thumbs_1 : decode cX9_thumbs 1 = .ok (.getfield 10, 3) := by decide +kernel
theorem dX9_thumbs_4 : decode cX9_thumbs 4 = .ok (.invokevirtual 264, 3) := by decide +kernel
theorem dX9_thumbs_7 : decode cX9_thumbs 7 = .ok (.sipush 20000, 3) := by decide +kernel
theorem dX9_thumbs_10 : decode cX9_thumbs 10 = .ok (.if_icmp .le 6, 3) := by decide +kernel
theorem dX9_thumbs_16 : decode cX9_thumbs 16 = .ok (.aload_n 0, 1) := by decide +kernel
theorem dX9_thumbs_17 : decode cX9_thumbs 17 = .ok (.getfield 42, 3) := by decide +kernel
theorem dX9_thumbs_20 : decode cX9_thumbs 20 = .ok (.aload_n 0, 1) := by decide +kernel
theorem dX9_thumbs_21 : decode cX9_thumbs 21 = .ok (.getfield 10, 3) := by decide +kernel
theorem dX9_thumbs_24 : decode cX9_thumbs 24 = .ok (.aload_n 0, 1) := by decide +kernel
theorem dX9_thumbs_25 : decode cX9_thumbs 25 = .ok (.getfield 28, 3) := by decide +kernel
theorem dX9_thumbs_28 : decode cX9_thumbs 28 = .ok (.aload_n 0, 1) := by decide +kernel
theorem dX9_thumbs_29 : decode cX9_thumbs 29 = .ok (.iload_n 1, 1) := by decide +kernel
theorem dX9_thumbs_30 : decode cX9_thumbs 30 = .ok (.invokevirtual 267, 3) := by decide +kernel
theorem dX9_thumbs_33 : decode cX9_thumbs 33 = .ok (.invokevirtual 270, 3) := by decide +kernel
theorem dX9_thumbs_36 : decode cX9_thumbs 36 = .ok (.aload_n 0, 1) := by decide +kernel
theorem dX9_thumbs_37 : decode cX9_thumbs 37 = .ok (.getfield 42, 3) := by decide +kernel
theorem dX9_thumbs_40 : decode cX9_thumbs 40 = .ok (.invokevirtual 274, 3) := by decide +kernel
set_option maxRecDepth 100000 in
theorem wm_X9_274 : Cond.methodLink RX9 274 yX4_traders ∈ gw := gm (List.mem_of_getElem? (i := 1234) (by decide +kernel)) rfl
set_option maxRecDepth 100000 in
theorem mi_X4_traders : MI yX4_traders cX4_traders 3 (some .int) 0 := ⟨gm (List.mem_of_getElem? (i := 1237) rfl) rfl, gm (List.mem_of_getElem? (i := 120) (by decide +kernel)) rfl, by decide, by decide, by decide +kernel⟩
set_option maxRecDepth 100000 in
theorem in_X4_traders : Cond.instanceMethod yX4_traders ∈ gw := gm (List.mem_of_getElem? (i := 1235) (by decide +kernel)) rfl
set_option maxRecDepth 100000 in
theorem se_X4_traders : Cond.selects yX4_traders.cls yX4_traders yX4_traders ∈ gw := gm (List.mem_of_getElem? (i := 1236) (by decide +kernel)) rfl
theorem dX9_thumbs_43 : decode cX9_thumbs 43 = .ok (.invokestatic 277, 3) := by decide +kernel
set_option maxRecDepth 100000 in
theorem wm_X9_277 : Cond.methodLink RX9 277 yJ6_bitCount_0f7a4 ∈ gw := gm (List.mem_of_getElem? (i := 1238) (by decide +kernel)) rfl
theorem dX9_thumbs_46 : decode cX9_thumbs 46 = .ok (.bipush 6, 2) := by decide +kernel
theorem dX9_thumbs_48 : decode cX9_thumbs 48 = .ok (.if_icmp .le 6, 3) := by decide +kernel
theorem dX9_thumbs_54 : decode cX9_thumbs 54 = .ok (.aload_n 0, 1) := by decide +kernel
theorem dX9_thumbs_55 : decode cX9_thumbs 55 = .ok (.getfield 42, 3) := by decide +kernel
theorem dX9_thumbs_58 : decode cX9_thumbs 58 = .ok (.iconst 1, 1) := by decide +kernel
theorem dX9_thumbs_59 : decode cX9_thumbs 59 = .ok (.invokevirtual 282, 3) := by decide +kernel
theorem dX9_thumbs_62 : decode cX9_thumbs 62 = .ok (.aload_n 0, 1) := by decide +kernel
theorem dX9_thumbs_63 : decode cX9_thumbs 63 = .ok (.getfield 42, 3) := by decide +kernel
theorem dX9_thumbs_66 : decode cX9_thumbs 66 = .ok (.getfield 286, 3) := by decide +kernel
set_option maxRecDepth 100000 in
theorem wf_X9_286 : Cond.fieldLinkNest RX9 286 "StoneTrust$Search" "blamed" "I" "StoneTrust" ∈ nests := nm_ (List.mem_of_getElem? (i := 422) (by decide +kernel)) rfl
theorem dX9_thumbs_69 : decode cX9_thumbs 69 = .ok (.ireturn, 1) := by decide +kernel
set_option maxHeartbeats 4000000 in
set_option maxRecDepth 100000 in
theorem c124_X9_thumbs (l : Launch) (G : va_G) (cI cJ cB cZ : ClassId) (a0 a1 a2 a3 a4 a5 a6 a7 a8 a9 a10 a11 a12 a13 a14 a15 a16 a17 a18 a19 a20 a21 a22 a23 a24 a25 a26 a27 a28 a29 a30 a31 a32 a33 a34 a35 a36 a37 a38 a39 a40 a41 a42 a43 a44 a45 : Nat) (x0 : Int32) : Con l G (TY cI cJ cB cZ) yX9_thumbs cX9_thumbs 2 (some .int) ({ frames := 3, cells := 0, slots := 0, locals := 69 } : Room) [.ref a0, .int x0] [(a0, .inr (9, [.ref a1, .ref a2, .ref a3, .int 0, .int 0, .ref a4, .ref a5, .ref a6, .ref a7])), (a1, .inr (7, [.int 100, .int 100, .int 0, .ref a8, .ref a9, .int 0, .ref a10, .ref a11, .ref a12, .ref a13, .ref a14, .ref a15, .ref a16, .ref a17, .ref a18])), (a9, .inl (cI, 2, .inl (upd (upd (fun _ => 0) 0 16) 1 16))), (a8, .inl (cI, 2, .inl (upd (upd (fun _ => 0) 0 16) 1 16))), (a17, .inr (8, [.ref a19, .ref a20, .ref a21, .ref a22, .ref a23, .ref a24, .ref a25, .int 0])), (a3, .inr (8, [.ref a26, .ref a27, .ref a28, .ref a29, .ref a30, .ref a31, .ref a32, .int 0])), (a4, .inr (4, [.ref a33, .ref a5, .ref a34, .ref a35, .ref a36, .ref a37, .ref a38, .int 100, .int 0, .int 0, .int (-1)])), (a34, .inr (8, [.ref a39, .ref a40, .ref a41, .ref a42, .ref a43, .ref a44, .ref a45, .int 0])), (a35, .inl (cI, 7, .inl (fun _ => 0)))] (QI G (TY cI cJ cB cZ) (fun (r : Int32) (u : Unit) => r = 0) (fun u : Unit => [])) := by
  refine k_met (by decide) (Nat.le_of_ble_eq_true rfl) ?_
  intro p e s m below meth c A ls hC hr hlk hnm hN hK hA hP hD hS hl
  have hl : lv_has ls 2 [(0, .ref a0), (1, .int x0)] := hl
  obtain ⟨hx, hb, hml, hown, hts⟩ := id hC
  refine lv_aload_n hx hb dX9_thumbs_0 rfl (lv_at hl 0 rfl) ?_
  refine k_get hC hK hP iX9 0 0 wf_X9_10 rfl (by decide) rfl rfl dX9_thumbs_1 ?_
  refine k_ci (wr := [(a0, .inr (9, [.ref a1, .ref a2, .ref a3, .int 0, .int 0, .ref a4, .ref a5, .ref a6, .ref a7])), (a17, .inr (8, [.ref a19, .ref a20, .ref a21, .ref a22, .ref a23, .ref a24, .ref a25, .int 0])), (a3, .inr (8, [.ref a26, .ref a27, .ref a28, .ref a29, .ref a30, .ref a31, .ref a32, .int 0])), (a4, .inr (4, [.ref a33, .ref a5, .ref a34, .ref a35, .ref a36, .ref a37, .ref a38, .int 100, .int 0, .int 0, .int (-1)])), (a34, .inr (8, [.ref a39, .ref a40, .ref a41, .ref a42, .ref a43, .ref a44, .ref a45, .int 0])), (a35, .inl (cI, 7, .inl (fun _ => 0)))]) (k_rV hC hN hK hP hD (c49_X7_ways l G cI cJ cB cZ a1 a8 a9 a10 a11 a12 a13 a14 a15 a16 a17 a18) [1, 2, 3] rfl (by decide) mi_X7_ways in_X7_ways se_X7_ways wm_X9_264 7 1 rfl rfl rfl hl.1 rfl rfl (Nat.le_of_ble_eq_true rfl) ⟨(Nat.le_of_ble_eq_true rfl), (Nat.le_of_ble_eq_true rfl)⟩ dX9_thumbs_4 ⟨(Nat.le_of_ble_eq_true rfl), (Nat.le_of_ble_eq_true rfl)⟩) hP hD hS hA [1, 2, 3] [0, 4, 5, 6, 7, 8] rfl rfl (by decide) (by decide) (fun r1 u1 H locs hp hP hD hS => ?_)
  have hP : va_P G cl [(a0, .inr (9, [.ref a1, .ref a2, .ref a3, .int 0, .int 0, .ref a4, .ref a5, .ref a6, .ref a7])), (a17, .inr (8, [.ref a19, .ref a20, .ref a21, .ref a22, .ref a23, .ref a24, .ref a25, .int 0])), (a3, .inr (8, [.ref a26, .ref a27, .ref a28, .ref a29, .ref a30, .ref a31, .ref a32, .int 0])), (a4, .inr (4, [.ref a33, .ref a5, .ref a34, .ref a35, .ref a36, .ref a37, .ref a38, .int 100, .int 0, .int 0, .int (-1)])), (a34, .inr (8, [.ref a39, .ref a40, .ref a41, .ref a42, .ref a43, .ref a44, .ref a45, .int 0])), (a35, .inl (cI, 7, .inl (fun _ => 0))), (a1, .inr (7, [.int 100, .int 100, .int 0, .ref a8, .ref a9, .int 0, .ref a10, .ref a11, .ref a12, .ref a13, .ref a14, .ref a15, .ref a16, .ref a17, .ref a18])), (a9, .inl (cI, 2, .inl (upd (upd (fun _ => 0) 0 16) 1 16))), (a8, .inl (cI, 2, .inl (upd (upd (fun _ => 0) 0 16) 1 16)))] H := hP
  have hD : va_D A [(a0, .inr (9, [.ref a1, .ref a2, .ref a3, .int 0, .int 0, .ref a4, .ref a5, .ref a6, .ref a7])), (a17, .inr (8, [.ref a19, .ref a20, .ref a21, .ref a22, .ref a23, .ref a24, .ref a25, .int 0])), (a3, .inr (8, [.ref a26, .ref a27, .ref a28, .ref a29, .ref a30, .ref a31, .ref a32, .int 0])), (a4, .inr (4, [.ref a33, .ref a5, .ref a34, .ref a35, .ref a36, .ref a37, .ref a38, .int 100, .int 0, .int 0, .int (-1)])), (a34, .inr (8, [.ref a39, .ref a40, .ref a41, .ref a42, .ref a43, .ref a44, .ref a45, .int 0])), (a35, .inl (cI, 7, .inl (fun _ => 0))), (a1, .inr (7, [.int 100, .int 100, .int 0, .ref a8, .ref a9, .int 0, .ref a10, .ref a11, .ref a12, .ref a13, .ref a14, .ref a15, .ref a16, .ref a17, .ref a18])), (a9, .inl (cI, 2, .inl (upd (upd (fun _ => 0) 0 16) 1 16))), (a8, .inl (cI, 2, .inl (upd (upd (fun _ => 0) 0 16) 1 16)))] := hD
  subst hp
  refine lv_sipush (v := 20000) hx hb dX9_thumbs_7 (by decide) ?_
  refine lv_icmp_le (tgt := 16) hx hb dX9_thumbs_10 (by decide) (fun _ => ?_) (fun c_ => absurd (by decide +kernel) c_)
  refine lv_aload_n hx hb dX9_thumbs_16 rfl (lv_at hl 0 rfl) ?_
  refine k_get hC hK hP iX9 0 5 wf_X9_42 rfl (by decide) rfl rfl dX9_thumbs_17 ?_
  refine lv_aload_n hx hb dX9_thumbs_20 rfl (lv_at hl 0 rfl) ?_
  refine k_get hC hK hP iX9 0 0 wf_X9_10 rfl (by decide) rfl rfl dX9_thumbs_21 ?_
  refine lv_aload_n hx hb dX9_thumbs_24 rfl (lv_at hl 0 rfl) ?_
  refine k_get hC hK hP iX9 0 2 wf_X9_28 rfl (by decide) rfl rfl dX9_thumbs_25 ?_
  refine lv_aload_n hx hb dX9_thumbs_28 rfl (lv_at hl 0 rfl) ?_
  refine lv_iload_n hx hb dX9_thumbs_29 rfl (lv_at hl 1 rfl) ?_
  refine k_cl (wr := [(a4, .inr (4, [.ref a33, .ref a5, .ref a34, .ref a35, .ref a36, .ref a37, .ref a38, .int 100, .int 0, .int 0, .int (-1)])), (a34, .inr (8, [.ref a39, .ref a40, .ref a41, .ref a42, .ref a43, .ref a44, .ref a45, .int 0])), (a35, .inl (cI, 7, .inl (fun _ => 0))), (a9, .inl (cI, 2, .inl (upd (upd (fun _ => 0) 0 16) 1 16))), (a8, .inl (cI, 2, .inl (upd (upd (fun _ => 0) 0 16) 1 16)))]) (k_rV hC hN hK hP hD (c50_X9_countingAt l G cI cJ cB cZ a0 a1 a2 a3 a4 a5 a6 a7 a8 a9 a10 a11 a12 a13 a14 a15 a16 a17 a18 a19 a20 a21 a22 a23 a24 a25 a26 a27 a28 a29 a30 a31 a32 x0) [0, 6, 1, 2] rfl (by decide) mi_X9_countingAt in_X9_countingAt se_X9_countingAt wm_X9_267 9 0 rfl rfl rfl hl.1 rfl rfl (Nat.le_of_ble_eq_true rfl) ⟨(Nat.le_of_ble_eq_true rfl), (Nat.le_of_ble_eq_true rfl)⟩ dX9_thumbs_30 ⟨(Nat.le_of_ble_eq_true rfl), (Nat.le_of_ble_eq_true rfl)⟩) hP hD hS hA [0, 6, 1, 2] [3, 4, 5, 7, 8] rfl rfl (by decide) (by decide) (fun r2 u2 H locs hp hP hD hS => ?_)
  have hP : va_P G cl [(a4, .inr (4, [.ref a33, .ref a5, .ref a34, .ref a35, .ref a36, .ref a37, .ref a38, .int 100, .int 0, .int 0, .int (-1)])), (a34, .inr (8, [.ref a39, .ref a40, .ref a41, .ref a42, .ref a43, .ref a44, .ref a45, .int 0])), (a35, .inl (cI, 7, .inl (fun _ => 0))), (a9, .inl (cI, 2, .inl (upd (upd (fun _ => 0) 0 16) 1 16))), (a8, .inl (cI, 2, .inl (upd (upd (fun _ => 0) 0 16) 1 16))), (a0, .inr (9, [.ref a1, .ref a2, .ref a3, .int 0, .int 0, .ref a4, .ref a5, .ref a6, .ref a7])), (a1, .inr (7, [.int 100, .int 100, .int 0, .ref a8, .ref a9, .int 0, .ref a10, .ref a11, .ref a12, .ref a13, .ref a14, .ref a15, .ref a16, .ref a17, .ref a18])), (a17, .inr (8, [.ref a19, .ref a20, .ref a21, .ref a22, .ref a23, .ref a24, .ref a25, .int 0])), (a3, .inr (8, [.ref a26, .ref a27, .ref a28, .ref a29, .ref a30, .ref a31, .ref a32, .int 0]))] H := hP
  have hD : va_D A [(a4, .inr (4, [.ref a33, .ref a5, .ref a34, .ref a35, .ref a36, .ref a37, .ref a38, .int 100, .int 0, .int 0, .int (-1)])), (a34, .inr (8, [.ref a39, .ref a40, .ref a41, .ref a42, .ref a43, .ref a44, .ref a45, .int 0])), (a35, .inl (cI, 7, .inl (fun _ => 0))), (a9, .inl (cI, 2, .inl (upd (upd (fun _ => 0) 0 16) 1 16))), (a8, .inl (cI, 2, .inl (upd (upd (fun _ => 0) 0 16) 1 16))), (a0, .inr (9, [.ref a1, .ref a2, .ref a3, .int 0, .int 0, .ref a4, .ref a5, .ref a6, .ref a7])), (a1, .inr (7, [.int 100, .int 100, .int 0, .ref a8, .ref a9, .int 0, .ref a10, .ref a11, .ref a12, .ref a13, .ref a14, .ref a15, .ref a16, .ref a17, .ref a18])), (a17, .inr (8, [.ref a19, .ref a20, .ref a21, .ref a22, .ref a23, .ref a24, .ref a25, .int 0])), (a3, .inr (8, [.ref a26, .ref a27, .ref a28, .ref a29, .ref a30, .ref a31, .ref a32, .int 0]))] := hD
  subst hp
  refine k_cv (wr := [(a9, .inl (cI, 2, .inl (upd (upd (fun _ => 0) 0 16) 1 16))), (a8, .inl (cI, 2, .inl (upd (upd (fun _ => 0) 0 16) 1 16))), (a0, .inr (9, [.ref a1, .ref a2, .ref a3, .int 0, .int 0, .ref a4, .ref a5, .ref a6, .ref a7]))]) (k_rV hC hN hK hP hD (c59_X4_gather l G cI cJ cB cZ a4 a1 a3 a33 a5 a34 a35 a36 a37 a38 a39 a40 a41 a42 a43 a44 a45 a8 a9 a10 a11 a12 a13 a14 a15 a16 a17 a18 a19 a20 a21 a22 a23 a24 a25 a26 a27 a28 a29 a30 a31 a32) [0, 1, 2, 6, 7, 8] rfl (by decide) mi_X4_gather in_X4_gather se_X4_gather wm_X9_270 4 0 rfl rfl rfl hl.1 rfl rfl (Nat.le_of_ble_eq_true rfl) ⟨(Nat.le_of_ble_eq_true rfl), (Nat.le_of_ble_eq_true rfl)⟩ dX9_thumbs_33 ⟨(Nat.le_of_ble_eq_true rfl), (Nat.le_of_ble_eq_true rfl)⟩) hP hD hS hA [0, 1, 2, 6, 7, 8] [3, 4, 5] rfl rfl (by decide) (by decide) (fun u3 H locs hp hP hD hS => ?_)
  have hP : va_P G cl [(a9, .inl (cI, 2, .inl (upd (upd (fun _ => 0) 0 16) 1 16))), (a8, .inl (cI, 2, .inl (upd (upd (fun _ => 0) 0 16) 1 16))), (a0, .inr (9, [.ref a1, .ref a2, .ref a3, .int 0, .int 0, .ref a4, .ref a5, .ref a6, .ref a7])), (a4, .inr (4, [.ref a1, .ref a5, .ref a34, .ref a35, .ref a36, .ref a37, .ref a38, .int 100, .int 0, .int 0, .int (-1)])), (a34, .inr (8, [.ref a39, .ref a40, .ref a41, .ref a42, .ref a43, .ref a44, .ref a45, .int 0])), (a35, .inl (cI, 7, .inl (fun _ => 0))), (a1, .inr (7, [.int 100, .int 100, .int 0, .ref a8, .ref a9, .int 0, .ref a10, .ref a11, .ref a12, .ref a13, .ref a14, .ref a15, .ref a16, .ref a17, .ref a18])), (a17, .inr (8, [.ref a19, .ref a20, .ref a21, .ref a22, .ref a23, .ref a24, .ref a25, .int 0])), (a3, .inr (8, [.ref a26, .ref a27, .ref a28, .ref a29, .ref a30, .ref a31, .ref a32, .int 0]))] H := hP
  have hD : va_D A [(a9, .inl (cI, 2, .inl (upd (upd (fun _ => 0) 0 16) 1 16))), (a8, .inl (cI, 2, .inl (upd (upd (fun _ => 0) 0 16) 1 16))), (a0, .inr (9, [.ref a1, .ref a2, .ref a3, .int 0, .int 0, .ref a4, .ref a5, .ref a6, .ref a7])), (a4, .inr (4, [.ref a1, .ref a5, .ref a34, .ref a35, .ref a36, .ref a37, .ref a38, .int 100, .int 0, .int 0, .int (-1)])), (a34, .inr (8, [.ref a39, .ref a40, .ref a41, .ref a42, .ref a43, .ref a44, .ref a45, .int 0])), (a35, .inl (cI, 7, .inl (fun _ => 0))), (a1, .inr (7, [.int 100, .int 100, .int 0, .ref a8, .ref a9, .int 0, .ref a10, .ref a11, .ref a12, .ref a13, .ref a14, .ref a15, .ref a16, .ref a17, .ref a18])), (a17, .inr (8, [.ref a19, .ref a20, .ref a21, .ref a22, .ref a23, .ref a24, .ref a25, .int 0])), (a3, .inr (8, [.ref a26, .ref a27, .ref a28, .ref a29, .ref a30, .ref a31, .ref a32, .int 0]))] := hD
  refine lv_aload_n hx hb dX9_thumbs_36 rfl (lv_at hl 0 rfl) ?_
  refine k_get hC hK hP iX9 2 5 wf_X9_42 rfl (by decide) rfl rfl dX9_thumbs_37 ?_
  refine k_ci (wr := [(a9, .inl (cI, 2, .inl (upd (upd (fun _ => 0) 0 16) 1 16))), (a8, .inl (cI, 2, .inl (upd (upd (fun _ => 0) 0 16) 1 16))), (a0, .inr (9, [.ref a1, .ref a2, .ref a3, .int 0, .int 0, .ref a4, .ref a5, .ref a6, .ref a7])), (a35, .inl (cI, 7, .inl (fun _ => 0))), (a1, .inr (7, [.int 100, .int 100, .int 0, .ref a8, .ref a9, .int 0, .ref a10, .ref a11, .ref a12, .ref a13, .ref a14, .ref a15, .ref a16, .ref a17, .ref a18])), (a17, .inr (8, [.ref a19, .ref a20, .ref a21, .ref a22, .ref a23, .ref a24, .ref a25, .int 0])), (a3, .inr (8, [.ref a26, .ref a27, .ref a28, .ref a29, .ref a30, .ref a31, .ref a32, .int 0]))]) (k_rV hC hN hK hP hD (c120_X4_traders l G cI cJ cB cZ a4 a1 a5 a34 a35 a36 a37 a38 a39 a40 a41 a42 a43 a44 a45) [3, 4] rfl (by decide) mi_X4_traders in_X4_traders se_X4_traders wm_X9_274 4 3 rfl rfl rfl hl.1 rfl rfl (Nat.le_of_ble_eq_true rfl) ⟨(Nat.le_of_ble_eq_true rfl), (Nat.le_of_ble_eq_true rfl)⟩ dX9_thumbs_40 ⟨(Nat.le_of_ble_eq_true rfl), (Nat.le_of_ble_eq_true rfl)⟩) hP hD hS hA [3, 4] [0, 1, 2, 5, 6, 7, 8] rfl rfl (by decide) (by decide) (fun r4 u4 H locs hp hP hD hS => ?_)
  have hP : va_P G cl [(a9, .inl (cI, 2, .inl (upd (upd (fun _ => 0) 0 16) 1 16))), (a8, .inl (cI, 2, .inl (upd (upd (fun _ => 0) 0 16) 1 16))), (a0, .inr (9, [.ref a1, .ref a2, .ref a3, .int 0, .int 0, .ref a4, .ref a5, .ref a6, .ref a7])), (a35, .inl (cI, 7, .inl (fun _ => 0))), (a1, .inr (7, [.int 100, .int 100, .int 0, .ref a8, .ref a9, .int 0, .ref a10, .ref a11, .ref a12, .ref a13, .ref a14, .ref a15, .ref a16, .ref a17, .ref a18])), (a17, .inr (8, [.ref a19, .ref a20, .ref a21, .ref a22, .ref a23, .ref a24, .ref a25, .int 0])), (a3, .inr (8, [.ref a26, .ref a27, .ref a28, .ref a29, .ref a30, .ref a31, .ref a32, .int 0])), (a4, .inr (4, [.ref a1, .ref a5, .ref a34, .ref a35, .ref a36, .ref a37, .ref a38, .int 100, .int 0, .int 0, .int (-1)])), (a34, .inr (8, [.ref a39, .ref a40, .ref a41, .ref a42, .ref a43, .ref a44, .ref a45, .int 0]))] H := hP
  have hD : va_D A [(a9, .inl (cI, 2, .inl (upd (upd (fun _ => 0) 0 16) 1 16))), (a8, .inl (cI, 2, .inl (upd (upd (fun _ => 0) 0 16) 1 16))), (a0, .inr (9, [.ref a1, .ref a2, .ref a3, .int 0, .int 0, .ref a4, .ref a5, .ref a6, .ref a7])), (a35, .inl (cI, 7, .inl (fun _ => 0))), (a1, .inr (7, [.int 100, .int 100, .int 0, .ref a8, .ref a9, .int 0, .ref a10, .ref a11, .ref a12, .ref a13, .ref a14, .ref a15, .ref a16, .ref a17, .ref a18])), (a17, .inr (8, [.ref a19, .ref a20, .ref a21, .ref a22, .ref a23, .ref a24, .ref a25, .int 0])), (a3, .inr (8, [.ref a26, .ref a27, .ref a28, .ref a29, .ref a30, .ref a31, .ref a32, .int 0])), (a4, .inr (4, [.ref a1, .ref a5, .ref a34, .ref a35, .ref a36, .ref a37, .ref a38, .int 100, .int 0, .int 0, .int (-1)])), (a34, .inr (8, [.ref a39, .ref a40, .ref a41, .ref a42, .ref a43, .ref a44, .ref a45, .int 0]))] := hD
  subst hp
  refine k_ci (wr := [(a9, .inl (cI, 2, .inl (upd (upd (fun _ => 0) 0 16) 1 16))), (a8, .inl (cI, 2, .inl (upd (upd (fun _ => 0) 0 16) 1 16))), (a0, .inr (9, [.ref a1, .ref a2, .ref a3, .int 0, .int 0, .ref a4, .ref a5, .ref a6, .ref a7])), (a35, .inl (cI, 7, .inl (fun _ => 0))), (a1, .inr (7, [.int 100, .int 100, .int 0, .ref a8, .ref a9, .int 0, .ref a10, .ref a11, .ref a12, .ref a13, .ref a14, .ref a15, .ref a16, .ref a17, .ref a18])), (a17, .inr (8, [.ref a19, .ref a20, .ref a21, .ref a22, .ref a23, .ref a24, .ref a25, .int 0])), (a3, .inr (8, [.ref a26, .ref a27, .ref a28, .ref a29, .ref a30, .ref a31, .ref a32, .int 0])), (a4, .inr (4, [.ref a1, .ref a5, .ref a34, .ref a35, .ref a36, .ref a37, .ref a38, .int 100, .int 0, .int 0, .int (-1)])), (a34, .inr (8, [.ref a39, .ref a40, .ref a41, .ref a42, .ref a43, .ref a44, .ref a45, .int 0]))]) (k_rS hC hN hK hP hD (c91_J6_bitCount_0f7a4 l G cI cJ cB cZ) [] rfl (by decide) mi_J6_bitCount_0f7a4 st_J6_bitCount_0f7a4 wm_X9_277 hl.1 rfl rfl (Nat.le_of_ble_eq_true rfl) ⟨(Nat.le_of_ble_eq_true rfl), (Nat.le_of_ble_eq_true rfl)⟩ dX9_thumbs_43 ⟨(Nat.le_of_ble_eq_true rfl), (Nat.le_of_ble_eq_true rfl)⟩) hP hD hS hA [] [0, 1, 2, 3, 4, 5, 6, 7, 8] rfl rfl (by decide) (by decide) (fun r5 u5 H locs hp hP hD hS => ?_)
  have hP : va_P G cl [(a9, .inl (cI, 2, .inl (upd (upd (fun _ => 0) 0 16) 1 16))), (a8, .inl (cI, 2, .inl (upd (upd (fun _ => 0) 0 16) 1 16))), (a0, .inr (9, [.ref a1, .ref a2, .ref a3, .int 0, .int 0, .ref a4, .ref a5, .ref a6, .ref a7])), (a35, .inl (cI, 7, .inl (fun _ => 0))), (a1, .inr (7, [.int 100, .int 100, .int 0, .ref a8, .ref a9, .int 0, .ref a10, .ref a11, .ref a12, .ref a13, .ref a14, .ref a15, .ref a16, .ref a17, .ref a18])), (a17, .inr (8, [.ref a19, .ref a20, .ref a21, .ref a22, .ref a23, .ref a24, .ref a25, .int 0])), (a3, .inr (8, [.ref a26, .ref a27, .ref a28, .ref a29, .ref a30, .ref a31, .ref a32, .int 0])), (a4, .inr (4, [.ref a1, .ref a5, .ref a34, .ref a35, .ref a36, .ref a37, .ref a38, .int 100, .int 0, .int 0, .int (-1)])), (a34, .inr (8, [.ref a39, .ref a40, .ref a41, .ref a42, .ref a43, .ref a44, .ref a45, .int 0]))] H := hP
  have hD : va_D A [(a9, .inl (cI, 2, .inl (upd (upd (fun _ => 0) 0 16) 1 16))), (a8, .inl (cI, 2, .inl (upd (upd (fun _ => 0) 0 16) 1 16))), (a0, .inr (9, [.ref a1, .ref a2, .ref a3, .int 0, .int 0, .ref a4, .ref a5, .ref a6, .ref a7])), (a35, .inl (cI, 7, .inl (fun _ => 0))), (a1, .inr (7, [.int 100, .int 100, .int 0, .ref a8, .ref a9, .int 0, .ref a10, .ref a11, .ref a12, .ref a13, .ref a14, .ref a15, .ref a16, .ref a17, .ref a18])), (a17, .inr (8, [.ref a19, .ref a20, .ref a21, .ref a22, .ref a23, .ref a24, .ref a25, .int 0])), (a3, .inr (8, [.ref a26, .ref a27, .ref a28, .ref a29, .ref a30, .ref a31, .ref a32, .int 0])), (a4, .inr (4, [.ref a1, .ref a5, .ref a34, .ref a35, .ref a36, .ref a37, .ref a38, .int 100, .int 0, .int 0, .int (-1)])), (a34, .inr (8, [.ref a39, .ref a40, .ref a41, .ref a42, .ref a43, .ref a44, .ref a45, .int 0]))] := hD
  subst hp
  refine lv_bipush (v := 6) hx hb dX9_thumbs_46 (by decide) ?_
  refine lv_icmp_le (tgt := 54) hx hb dX9_thumbs_48 (by decide) (fun _ => ?_) (fun c_ => absurd (by decide +kernel) c_)
  refine lv_aload_n hx hb dX9_thumbs_54 rfl (lv_at hl 0 rfl) ?_
  refine k_get hC hK hP iX9 2 5 wf_X9_42 rfl (by decide) rfl rfl dX9_thumbs_55 ?_
  refine lv_iconst (v := 1) hx hb dX9_thumbs_58 (by decide) ?_
  refine k_cv (wr := [(a0, .inr (9, [.ref a1, .ref a2, .ref a3, .int 0, .int 0, .ref a4, .ref a5, .ref a6, .ref a7])), (a35, .inl (cI, 7, .inl (fun _ => 0))), (a17, .inr (8, [.ref a19, .ref a20, .ref a21, .ref a22, .ref a23, .ref a24, .ref a25, .int 0])), (a3, .inr (8, [.ref a26, .ref a27, .ref a28, .ref a29, .ref a30, .ref a31, .ref a32, .int 0])), (a34, .inr (8, [.ref a39, .ref a40, .ref a41, .ref a42, .ref a43, .ref a44, .ref a45, .int 0]))]) (k_rV hC hN hK hP hD (c123_X4_goThrough l G cI cJ cB cZ a4 a1 a5 a34 a35 a36 a37 a38 a8 a9 a10 a11 a12 a13 a14 a15 a16 a17 a18) [7, 4, 1, 0] rfl (by decide) mi_X4_goThrough in_X4_goThrough se_X4_goThrough wm_X9_282 4 7 rfl rfl rfl hl.1 rfl rfl (Nat.le_of_ble_eq_true rfl) ⟨(Nat.le_of_ble_eq_true rfl), (Nat.le_of_ble_eq_true rfl)⟩ dX9_thumbs_59 ⟨(Nat.le_of_ble_eq_true rfl), (Nat.le_of_ble_eq_true rfl)⟩) hP hD hS hA [7, 4, 1, 0] [2, 3, 5, 6, 8] rfl rfl (by decide) (by decide) (fun u6 H locs hp hP hD hS => ?_)
  have hP : va_P G cl [(a0, .inr (9, [.ref a1, .ref a2, .ref a3, .int 0, .int 0, .ref a4, .ref a5, .ref a6, .ref a7])), (a35, .inl (cI, 7, .inl (fun _ => 0))), (a17, .inr (8, [.ref a19, .ref a20, .ref a21, .ref a22, .ref a23, .ref a24, .ref a25, .int 0])), (a3, .inr (8, [.ref a26, .ref a27, .ref a28, .ref a29, .ref a30, .ref a31, .ref a32, .int 0])), (a34, .inr (8, [.ref a39, .ref a40, .ref a41, .ref a42, .ref a43, .ref a44, .ref a45, .int 0])), (a4, .inr (4, [.ref a1, .ref a5, .ref a34, .ref a35, .ref a36, .ref a37, .ref a38, .int 100, .int 0, .int 0, .int 0])), (a1, .inr (7, [.int 100, .int 100, .int 0, .ref a8, .ref a9, .int 0, .ref a10, .ref a11, .ref a12, .ref a13, .ref a14, .ref a15, .ref a16, .ref a17, .ref a18])), (a8, .inl (cI, 2, .inl (upd (upd (fun _ => 0) 0 16) 1 16))), (a9, .inl (cI, 2, .inl (upd (upd (fun _ => 0) 0 16) 1 16)))] H := hP
  have hD : va_D A [(a0, .inr (9, [.ref a1, .ref a2, .ref a3, .int 0, .int 0, .ref a4, .ref a5, .ref a6, .ref a7])), (a35, .inl (cI, 7, .inl (fun _ => 0))), (a17, .inr (8, [.ref a19, .ref a20, .ref a21, .ref a22, .ref a23, .ref a24, .ref a25, .int 0])), (a3, .inr (8, [.ref a26, .ref a27, .ref a28, .ref a29, .ref a30, .ref a31, .ref a32, .int 0])), (a34, .inr (8, [.ref a39, .ref a40, .ref a41, .ref a42, .ref a43, .ref a44, .ref a45, .int 0])), (a4, .inr (4, [.ref a1, .ref a5, .ref a34, .ref a35, .ref a36, .ref a37, .ref a38, .int 100, .int 0, .int 0, .int 0])), (a1, .inr (7, [.int 100, .int 100, .int 0, .ref a8, .ref a9, .int 0, .ref a10, .ref a11, .ref a12, .ref a13, .ref a14, .ref a15, .ref a16, .ref a17, .ref a18])), (a8, .inl (cI, 2, .inl (upd (upd (fun _ => 0) 0 16) 1 16))), (a9, .inl (cI, 2, .inl (upd (upd (fun _ => 0) 0 16) 1 16)))] := hD
  refine lv_aload_n hx hb dX9_thumbs_62 rfl (lv_at hl 0 rfl) ?_
  refine k_get hC hK hP iX9 0 5 wf_X9_42 rfl (by decide) rfl rfl dX9_thumbs_63 ?_
  refine k_getN hC hN hK hP iX4 5 10 wf_X9_286 rfl (by decide) rfl rfl dX9_thumbs_66 ?_
  exact k_iret hC hr hlk hK hP hD hS () [] rfl (by decide) rfl (Nat.le_of_ble_eq_true rfl) (Nat.le_of_ble_eq_true rfl) dX9_thumbs_69
theorem dX9_about_0 : decode cX9_about 0 = .ok (.iload_n 1, 1) := by decide +kernel
theorem dX9_about_1 : decode cX9_about 1 = .ok (.tableswitch 102 0 6 #[43, 51, 62, 70, 81, 86, 97], 43) := by decide +kernel
theorem dX9_about_103 : decode cX9_about 103 = .ok (.iconst (-1), 1) := by decide +kernel
theorem dX9_about_104 : decode cX9_about 104 = .ok (.ireturn, 1) := by decide +kernel
theorem dX9_about_44 : decode cX9_about 44 = .ok (.aload_n 0, 1) := by decide +kernel
theorem dX9_about_45 : decode cX9_about 45 = .ok (.getfield 10, 3) := by decide +kernel
theorem dX9_about_48 : decode cX9_about 48 = .ok (.getfield 171, 3) := by decide +kernel
theorem dX9_about_51 : decode cX9_about 51 = .ok (.ireturn, 1) := by decide +kernel
theorem dX9_about_52 : decode cX9_about 52 = .ok (.aload_n 0, 1) := by decide +kernel
theorem dX9_about_53 : decode cX9_about 53 = .ok (.getfield 10, 3) := by decide +kernel
theorem dX9_about_56 : decode cX9_about 56 = .ok (.getfield 289, 3) := by decide +kernel
theorem dX9_about_59 : decode cX9_about 59 = .ok (.getfield 85, 3) := by decide +kernel
theorem dX9_about_62 : decode cX9_about 62 = .ok (.ireturn, 1) := by decide +kernel
theorem dX9_about_63 : decode cX9_about 63 = .ok (.aload_n 0, 1) := by decide +kernel
theorem dX9_about_64 : decode cX9_about 64 = .ok (.getfield 28, 3) := by decide +kernel
theorem dX9_about_67 : decode cX9_about 67 = .ok (.getfield 85, 3) := by decide +kernel
theorem dX9_about_70 : decode cX9_about 70 = .ok (.ireturn, 1) := by decide +kernel
theorem dX9_about_71 : decode cX9_about 71 = .ok (.aload_n 0, 1) := by decide +kernel
theorem dX9_about_72 : decode cX9_about 72 = .ok (.getfield 10, 3) := by decide +kernel
theorem dX9_about_75 : decode cX9_about 75 = .ok (.getfield 211, 3) := by decide +kernel
theorem dX9_about_78 : decode cX9_about 78 = .ok (.getfield 215, 3) := by decide +kernel
theorem dX9_about_81 : decode cX9_about 81 = .ok (.ireturn, 1) := by decide +kernel
theorem dX9_about_82 : decode cX9_about 82 = .ok (.aload_n 0, 1) := by decide +kernel
theorem dX9_about_83 : decode cX9_about 83 = .ok (.getfield 32, 3) := by decide +kernel
theorem dX9_about_86 : decode cX9_about 86 = .ok (.ireturn, 1) := by decide +kernel
theorem dX9_about_87 : decode cX9_about 87 = .ok (.aload_n 0, 1) := by decide +kernel
theorem dX9_about_88 : decode cX9_about 88 = .ok (.getfield 19, 3) := by decide +kernel
theorem dX9_about_91 : decode cX9_about 91 = .ok (.getfield 65, 3) := by decide +kernel
theorem dX9_about_94 : decode cX9_about 94 = .ok (.getfield 69, 3) := by decide +kernel
theorem dX9_about_97 : decode cX9_about 97 = .ok (.ireturn, 1) := by decide +kernel
theorem dX9_about_98 : decode cX9_about 98 = .ok (.aload_n 0, 1) := by decide +kernel
theorem dX9_about_99 : decode cX9_about 99 = .ok (.getfield 36, 3) := by decide +kernel
theorem dX9_about_102 : decode cX9_about 102 = .ok (.ireturn, 1) := by decide +kernel
set_option maxHeartbeats 4000000 in
set_option maxRecDepth 100000 in
theorem c125_X9_about (l : Launch) (G : va_G) (cI cJ cB cZ : ClassId) (a0 a1 a2 a3 a4 a5 a6 a7 a8 a9 a10 a11 a12 a13 a14 a15 a16 a17 a18 a19 a20 a21 a22 a23 a24 a25 a26 a27 a28 a29 a30 a31 a32 a33 a34 a35 a36 a37 a38 a39 : Nat) (x0 : Int32) : Con l G (TY cI cJ cB cZ) yX9_about cX9_about 2 (some .int) ({ frames := 0, cells := 0, slots := 0, locals := 0 } : Room) [.ref a0, .int x0] [(a0, .inr (9, [.ref a1, .ref a2, .ref a3, .int 0, .int 0, .ref a4, .ref a5, .ref a6, .ref a7])), (a1, .inr (7, [.int 100, .int 100, .int 0, .ref a8, .ref a9, .int 0, .ref a10, .ref a11, .ref a12, .ref a13, .ref a14, .ref a15, .ref a16, .ref a17, .ref a18])), (a17, .inr (8, [.ref a19, .ref a20, .ref a21, .ref a22, .ref a23, .ref a24, .ref a25, .int 0])), (a3, .inr (8, [.ref a26, .ref a27, .ref a28, .ref a29, .ref a30, .ref a31, .ref a32, .int 0])), (a18, .inr (3, [.ref a33, .ref a34, .ref a35, .ref a36, .int 0])), (a2, .inr (2, [.ref a37, .ref a38, .int 0, .int 0, .int 0, .int 0, .int 0, .int (-1)])), (a37, .inr (5, [.ref a39, .int 0, .int 0, .int 0, .int 0, .long 0, .int 0]))] (QI G (TY cI cJ cB cZ) (fun (r : Int32) (u : Unit) => r = sp_about x0) (fun u : Unit => [])) := by
  refine k_met (by decide) (Nat.le_of_ble_eq_true rfl) ?_
  intro p e s m below meth c A ls hC hr hlk hnm hN hK hA hP hD hS hl
  have hl : lv_has ls 2 [(0, .ref a0), (1, .int x0)] := hl
  obtain ⟨hx, hb, hml, hown, hts⟩ := id hC
  refine lv_iload_n hx hb dX9_about_0 rfl (lv_at hl 1 rfl) ?_
  by_cases q_1 : x0.toInt < 0 ∨ 6 < x0.toInt
  · refine lv_tableOut (tgt := 103) hx hb dX9_about_1 q_1 (by decide) ?_
    refine lv_iconst (v := (-1)) hx hb dX9_about_103 (by decide) ?_
    exact k_iret hC hr hlk hK hP hD hS () [] rfl (by decide) (by first | decide | (unfold sp_about; rw [if_neg (by omega)]) | (unfold sp_about; rw [if_pos (by omega)])) (Nat.le_of_ble_eq_true rfl) (Nat.le_of_ble_eq_true rfl) dX9_about_104
  · have d_1 : 0 ≤ x0.toInt ∧ x0.toInt ≤ 6 := by omega
    have e_2 : x0.toInt = 0 ∨ x0.toInt = 1 ∨ x0.toInt = 2 ∨ x0.toInt = 3 ∨ x0.toInt = 4 ∨ x0.toInt = 5 ∨ x0.toInt = 6 := by omega
    obtain rfl | rfl | rfl | rfl | rfl | rfl | rfl : x0 = 0 ∨ x0 = 1 ∨ x0 = 2 ∨ x0 = 3 ∨ x0 = 4 ∨ x0 = 5 ∨ x0 = 6 := by simp only [fa_eq]; exact e_2
    · skip
      refine lv_tableIn (tgt := 44) hx hb dX9_about_1 (by decide +kernel) (by decide +kernel) rfl (by decide) ?_
      refine lv_aload_n hx hb dX9_about_44 rfl (lv_at hl 0 rfl) ?_
      refine k_get hC hK hP iX9 0 0 wf_X9_10 rfl (by decide) rfl rfl dX9_about_45 ?_
      refine k_getN hC hN hK hP iX7 1 5 wf_X9_171 rfl (by decide) rfl rfl dX9_about_48 ?_
      exact k_iret hC hr hlk hK hP hD hS () [] rfl (by decide) (by first | decide | (unfold sp_about; rw [if_neg (by omega)]) | (unfold sp_about; rw [if_pos (by omega)])) (Nat.le_of_ble_eq_true rfl) (Nat.le_of_ble_eq_true rfl) dX9_about_51
    · skip
      refine lv_tableIn (tgt := 52) hx hb dX9_about_1 (by decide +kernel) (by decide +kernel) rfl (by decide) ?_
      refine lv_aload_n hx hb dX9_about_52 rfl (lv_at hl 0 rfl) ?_
      refine k_get hC hK hP iX9 0 0 wf_X9_10 rfl (by decide) rfl rfl dX9_about_53 ?_
      refine k_getN hC hN hK hP iX7 1 13 wf_X9_289 rfl (by decide) rfl rfl dX9_about_56 ?_
      refine k_getN hC hN hK hP iX8 2 7 wf_X9_85 rfl (by decide) rfl rfl dX9_about_59 ?_
      exact k_iret hC hr hlk hK hP hD hS () [] rfl (by decide) (by first | decide | (unfold sp_about; rw [if_neg (by omega)]) | (unfold sp_about; rw [if_pos (by omega)])) (Nat.le_of_ble_eq_true rfl) (Nat.le_of_ble_eq_true rfl) dX9_about_62
    · skip
      refine lv_tableIn (tgt := 63) hx hb dX9_about_1 (by decide +kernel) (by decide +kernel) rfl (by decide) ?_
      refine lv_aload_n hx hb dX9_about_63 rfl (lv_at hl 0 rfl) ?_
      refine k_get hC hK hP iX9 0 2 wf_X9_28 rfl (by decide) rfl rfl dX9_about_64 ?_
      refine k_getN hC hN hK hP iX8 3 7 wf_X9_85 rfl (by decide) rfl rfl dX9_about_67 ?_
      exact k_iret hC hr hlk hK hP hD hS () [] rfl (by decide) (by first | decide | (unfold sp_about; rw [if_neg (by omega)]) | (unfold sp_about; rw [if_pos (by omega)])) (Nat.le_of_ble_eq_true rfl) (Nat.le_of_ble_eq_true rfl) dX9_about_70
    · skip
      refine lv_tableIn (tgt := 71) hx hb dX9_about_1 (by decide +kernel) (by decide +kernel) rfl (by decide) ?_
      refine lv_aload_n hx hb dX9_about_71 rfl (lv_at hl 0 rfl) ?_
      refine k_get hC hK hP iX9 0 0 wf_X9_10 rfl (by decide) rfl rfl dX9_about_72 ?_
      refine k_getN hC hN hK hP iX7 1 14 wf_X9_211 rfl (by decide) rfl rfl dX9_about_75 ?_
      refine k_getN hC hN hK hP iX3 4 4 wf_X9_215 rfl (by decide) rfl rfl dX9_about_78 ?_
      exact k_iret hC hr hlk hK hP hD hS () [] rfl (by decide) (by first | decide | (unfold sp_about; rw [if_neg (by omega)]) | (unfold sp_about; rw [if_pos (by omega)])) (Nat.le_of_ble_eq_true rfl) (Nat.le_of_ble_eq_true rfl) dX9_about_81
    · skip
      refine lv_tableIn (tgt := 82) hx hb dX9_about_1 (by decide +kernel) (by decide +kernel) rfl (by decide) ?_
      refine lv_aload_n hx hb dX9_about_82 rfl (lv_at hl 0 rfl) ?_
      refine k_get hC hK hP iX9 0 3 wf_X9_32 rfl (by decide) rfl rfl dX9_about_83 ?_
      exact k_iret hC hr hlk hK hP hD hS () [] rfl (by decide) (by first | decide | (unfold sp_about; rw [if_neg (by omega)]) | (unfold sp_about; rw [if_pos (by omega)])) (Nat.le_of_ble_eq_true rfl) (Nat.le_of_ble_eq_true rfl) dX9_about_86
    · skip
      refine lv_tableIn (tgt := 87) hx hb dX9_about_1 (by decide +kernel) (by decide +kernel) rfl (by decide) ?_
      refine lv_aload_n hx hb dX9_about_87 rfl (lv_at hl 0 rfl) ?_
      refine k_get hC hK hP iX9 0 1 wf_X9_19 rfl (by decide) rfl rfl dX9_about_88 ?_
      refine k_getN hC hN hK hP iX2 5 0 wf_X9_65 rfl (by decide) rfl rfl dX9_about_91 ?_
      refine k_getN hC hN hK hP iX5 6 1 wf_X9_69 rfl (by decide) rfl rfl dX9_about_94 ?_
      exact k_iret hC hr hlk hK hP hD hS () [] rfl (by decide) (by first | decide | (unfold sp_about; rw [if_neg (by omega)]) | (unfold sp_about; rw [if_pos (by omega)])) (Nat.le_of_ble_eq_true rfl) (Nat.le_of_ble_eq_true rfl) dX9_about_97
    · skip
      refine lv_tableIn (tgt := 98) hx hb dX9_about_1 (by decide +kernel) (by decide +kernel) rfl (by decide) ?_
      refine lv_aload_n hx hb dX9_about_98 rfl (lv_at hl 0 rfl) ?_
      refine k_get hC hK hP iX9 0 4 wf_X9_36 rfl (by decide) rfl rfl dX9_about_99 ?_
      exact k_iret hC hr hlk hK hP hD hS () [] rfl (by decide) (by first | decide | (unfold sp_about; rw [if_neg (by omega)]) | (unfold sp_about; rw [if_pos (by omega)])) (Nat.le_of_ble_eq_true rfl) (Nat.le_of_ble_eq_true rfl) dX9_about_102

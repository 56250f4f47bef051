theorem dX6_leftOf_0 : decode cX6_leftOf 0 = .ok (.iload_n 1, 1) := by decide +kernel
theorem dX6_leftOf_1 : decode cX6_leftOf 1 = .ok (.ifCond .lt 19, 3) := by decide +kernel
theorem dX6_leftOf_20 : decode cX6_leftOf 20 = .ok (.iconst 0, 1) := by decide +kernel
theorem dX6_leftOf_21 : decode cX6_leftOf 21 = .ok (.ireturn, 1) := by decide +kernel
theorem dX6_leftOf_4 : decode cX6_leftOf 4 = .ok (.iload_n 1, 1) := by decide +kernel
theorem dX6_leftOf_5 : decode cX6_leftOf 5 = .ok (.sipush 729, 3) := by decide +kernel
theorem dX6_leftOf_8 : decode cX6_leftOf 8 = .ok (.if_icmp .ge 12, 3) := by decide +kernel
theorem dX6_leftOf_11 : decode cX6_leftOf 11 = .ok (.aload_n 0, 1) := by decide +kernel
theorem dX6_leftOf_12 : decode cX6_leftOf 12 = .ok (.getfield 11, 3) := by decide +kernel
set_option maxRecDepth 100000 in
theorem wf_X6_11 : Cond.fieldLink RX6 11 "StoneTrust$Trials" "left" "[I" ∈ gw := gm (List.mem_of_getElem? (i := 452) (by decide +kernel)) rfl
theorem dX6_leftOf_15 : decode cX6_leftOf 15 = .ok (.iload_n 1, 1) := by decide +kernel
theorem dX6_leftOf_16 : decode cX6_leftOf 16 = .ok (.iaload, 1) := by decide +kernel
theorem dX6_leftOf_17 : decode cX6_leftOf 17 = .ok (.goto 4, 3) := by decide +kernel
set_option maxHeartbeats 4000000 in
set_option maxRecDepth 100000 in
theorem c99_X6_leftOf (l : Launch) (G : va_G) (cI cJ cB cZ : ClassId) (a0 a1 a2 a3 a4 a5 a6 a7 a8 a9 a10 : Nat) (b1 : Int32) (v_tr_3 : Int32) (v_tr_6 : Int32) (v_tr_7 : Int32) (v_tr_8 : Int32) (v_tr_10 : Int32) (v_tr_15 : Int32) (v_tr_16 : Int32) (v_tr_17 : Int32) (v_tr_18 : Int32) (v_tr_19 : Int32) (g_tr_left : Nat → Int32) (hv_0 : 0 ≤ v_tr_3.toInt) (hv_1 : v_tr_3.toInt ≤ 729) (hv_2 : 0 ≤ v_tr_10.toInt) (hv_3 : v_tr_10.toInt ≤ 240) (hv_4 : 0 ≤ v_tr_15.toInt) (hv_5 : v_tr_15.toInt ≤ 3) (hT_g_tr_left : TA 0 63 g_tr_left) : Con l G (TY cI cJ cB cZ) yX6_leftOf cX6_leftOf 2 (some .int) ({ frames := 0, cells := 0, slots := 0, locals := 0 } : Room) [.ref a0, .int b1] [(a0, .inr (6, [.ref a1, .ref a2, .ref a3, .int v_tr_3, .ref a4, .ref a5, .int v_tr_6, .int v_tr_7, .int v_tr_8, .ref a6, .int v_tr_10, .ref a7, .ref a8, .ref a9, .ref a10, .int v_tr_15, .int v_tr_16, .int v_tr_17, .int v_tr_18, .int v_tr_19])), (a1, .inl (cI, 729, .inl g_tr_left))] (QI G (TY cI cJ cB cZ) (fun (r : Int32) (u : Unit) => (0 ≤ r.toInt ∧ r.toInt ≤ 63)) (fun u : Unit => [(a0, .inr (6, [.ref a1, .ref a2, .ref a3, .int v_tr_3, .ref a4, .ref a5, .int v_tr_6, .int v_tr_7, .int v_tr_8, .ref a6, .int v_tr_10, .ref a7, .ref a8, .ref a9, .ref a10, .int v_tr_15, .int v_tr_16, .int v_tr_17, .int v_tr_18, .int v_tr_19])), (a1, .inl (cI, 729, .inl g_tr_left))])) := by
  refine k_met (by decide) (Nat.le_of_ble_eq_true rfl) ?_
  intro p e s m below meth c A ls hC hr hlk hnm hN hZ hK hA hP hD hS hl
  have hl : lv_has ls 2 [(0, .ref a0), (1, .int b1)] := hl
  generalize hQm : MQ below _ _ s _ _ A = Qm
  generalize (List.toArray _ : Array Value) = args at hC hQm ⊢
  obtain ⟨hx, hb, hml, hown, hts⟩ := id hC
  obtain ⟨H, hH⟩ : ∃ q, q = s.heap := ⟨_, rfl⟩
  obtain ⟨locs, hlo⟩ : ∃ q : List Loc, q = [] := ⟨_, rfl⟩
  have hP : va_P G cl [(a0, .inr (6, [.ref a1, .ref a2, .ref a3, .int v_tr_3, .ref a4, .ref a5, .int v_tr_6, .int v_tr_7, .int v_tr_8, .ref a6, .int v_tr_10, .ref a7, .ref a8, .ref a9, .ref a10, .int v_tr_15, .int v_tr_16, .int v_tr_17, .int v_tr_18, .int v_tr_19])), (a1, .inl (cI, 729, .inl g_tr_left))] H := by rw [hH]; exact hP
  have hS : va_S A s.heap H locs := by rw [hH, hlo]; exact hS
  rw [← hlo]
  rw [← hH]
  refine lv_iload_n hx hb dX6_leftOf_0 rfl (lv_at hl 1 rfl) ?_
  refine lv_if_lt (tgt := 20) hx hb dX6_leftOf_1 (by decide) (fun c1 => ?_) (fun c1 => ?_)
  · have dc1 : b1.toInt < 0 := (fa_lt _ _).mp c1; have lbc1_0 := i_lo b1; have ubc1_0 := i_hi b1
    refine lv_iconst (v := 0) hx hb dX6_leftOf_20 (by decide) ?_
    have l_l2 : (0 : Int32).toInt = 0 := rfl
    rw [← hQm]
    exact k_iret hC hr hlk hK hP hD hS () [0, 1] rfl (by decide +kernel) (show 0 ≤ (0 : Int32).toInt ∧ (0 : Int32).toInt ≤ 63 from by omega) (Nat.le_of_ble_eq_true rfl) (Nat.le_of_ble_eq_true rfl) dX6_leftOf_21
  · have dc1 : 0 ≤ b1.toInt := fa_nlt c1; have lbc1_0 := i_lo b1; have ubc1_0 := i_hi b1
    refine lv_iload_n hx hb dX6_leftOf_4 rfl (lv_at hl 1 rfl) ?_
    refine lv_sipush (v := 729) hx hb dX6_leftOf_5 (by decide) ?_
    refine lv_icmp_ge (tgt := 20) hx hb dX6_leftOf_8 (by decide) (fun c3 => ?_) (fun c3 => ?_)
    · have dc3 : 729 ≤ b1.toInt := (fa_le _ _).mp c3; have ubc3_1 := i_hi b1
      refine lv_iconst (v := 0) hx hb dX6_leftOf_20 (by decide) ?_
      have l_l4 : (0 : Int32).toInt = 0 := rfl
      rw [← hQm]
      exact k_iret hC hr hlk hK hP hD hS () [0, 1] rfl (by decide +kernel) (show 0 ≤ (0 : Int32).toInt ∧ (0 : Int32).toInt ≤ 63 from by omega) (Nat.le_of_ble_eq_true rfl) (Nat.le_of_ble_eq_true rfl) dX6_leftOf_21
    · have dc3 : b1.toInt < 729 := fa_nle c3; have ubc3_1 := i_hi b1
      refine lv_aload_n hx hb dX6_leftOf_11 rfl (lv_at hl 0 rfl) ?_
      refine k_get hC hK hP iX6 0 0 wf_X6_11 rfl (by decide) rfl rfl dX6_leftOf_12 ?_
      refine lv_iload_n hx hb dX6_leftOf_15 rfl (lv_at hl 1 rfl) ?_
      refine t_iald hC hK hP 1 rfl (by omega) (by omega) hT_g_tr_left dX6_leftOf_16 (fun z5 tz5 => ?_)
      refine lv_goto (tgt := 21) hx hb dX6_leftOf_17 (by decide) ?_
      rw [← hQm]
      exact k_iret hC hr hlk hK hP hD hS () [0, 1] rfl (by decide +kernel) (show 0 ≤ z5.toInt ∧ z5.toInt ≤ 63 from by omega) (Nat.le_of_ble_eq_true rfl) (Nat.le_of_ble_eq_true rfl) dX6_leftOf_21
theorem dX6_rightOf_0 : decode cX6_rightOf 0 = .ok (.iload_n 1, 1) := by decide +kernel
theorem dX6_rightOf_1 : decode cX6_rightOf 1 = .ok (.ifCond .lt 19, 3) := by decide +kernel
theorem dX6_rightOf_20 : decode cX6_rightOf 20 = .ok (.iconst 0, 1) := by decide +kernel
theorem dX6_rightOf_21 : decode cX6_rightOf 21 = .ok (.ireturn, 1) := by decide +kernel
theorem dX6_rightOf_4 : decode cX6_rightOf 4 = .ok (.iload_n 1, 1) := by decide +kernel
theorem dX6_rightOf_5 : decode cX6_rightOf 5 = .ok (.sipush 729, 3) := by decide +kernel
theorem dX6_rightOf_8 : decode cX6_rightOf 8 = .ok (.if_icmp .ge 12, 3) := by decide +kernel
theorem dX6_rightOf_11 : decode cX6_rightOf 11 = .ok (.aload_n 0, 1) := by decide +kernel
theorem dX6_rightOf_12 : decode cX6_rightOf 12 = .ok (.getfield 15, 3) := by decide +kernel
set_option maxRecDepth 100000 in
theorem wf_X6_15 : Cond.fieldLink RX6 15 "StoneTrust$Trials" "right" "[I" ∈ gw := gm (List.mem_of_getElem? (i := 453) (by decide +kernel)) rfl
theorem dX6_rightOf_15 : decode cX6_rightOf 15 = .ok (.iload_n 1, 1) := by decide +kernel
theorem dX6_rightOf_16 : decode cX6_rightOf 16 = .ok (.iaload, 1) := by decide +kernel
theorem dX6_rightOf_17 : decode cX6_rightOf 17 = .ok (.goto 4, 3) := by decide +kernel
set_option maxHeartbeats 4000000 in
set_option maxRecDepth 100000 in
theorem c100_X6_rightOf (l : Launch) (G : va_G) (cI cJ cB cZ : ClassId) (a0 a1 a2 a3 a4 a5 a6 a7 a8 a9 a10 : Nat) (b1 : Int32) (v_tr_3 : Int32) (v_tr_6 : Int32) (v_tr_7 : Int32) (v_tr_8 : Int32) (v_tr_10 : Int32) (v_tr_15 : Int32) (v_tr_16 : Int32) (v_tr_17 : Int32) (v_tr_18 : Int32) (v_tr_19 : Int32) (g_tr_right : Nat → Int32) (hv_0 : 0 ≤ v_tr_3.toInt) (hv_1 : v_tr_3.toInt ≤ 729) (hv_2 : 0 ≤ v_tr_10.toInt) (hv_3 : v_tr_10.toInt ≤ 240) (hv_4 : 0 ≤ v_tr_15.toInt) (hv_5 : v_tr_15.toInt ≤ 3) (hT_g_tr_right : TA 0 63 g_tr_right) : Con l G (TY cI cJ cB cZ) yX6_rightOf cX6_rightOf 2 (some .int) ({ frames := 0, cells := 0, slots := 0, locals := 0 } : Room) [.ref a0, .int b1] [(a0, .inr (6, [.ref a1, .ref a2, .ref a3, .int v_tr_3, .ref a4, .ref a5, .int v_tr_6, .int v_tr_7, .int v_tr_8, .ref a6, .int v_tr_10, .ref a7, .ref a8, .ref a9, .ref a10, .int v_tr_15, .int v_tr_16, .int v_tr_17, .int v_tr_18, .int v_tr_19])), (a2, .inl (cI, 729, .inl g_tr_right))] (QI G (TY cI cJ cB cZ) (fun (r : Int32) (u : Unit) => (0 ≤ r.toInt ∧ r.toInt ≤ 63)) (fun u : Unit => [(a0, .inr (6, [.ref a1, .ref a2, .ref a3, .int v_tr_3, .ref a4, .ref a5, .int v_tr_6, .int v_tr_7, .int v_tr_8, .ref a6, .int v_tr_10, .ref a7, .ref a8, .ref a9, .ref a10, .int v_tr_15, .int v_tr_16, .int v_tr_17, .int v_tr_18, .int v_tr_19])), (a2, .inl (cI, 729, .inl g_tr_right))])) := by
  refine k_met (by decide) (Nat.le_of_ble_eq_true rfl) ?_
  intro p e s m below meth c A ls hC hr hlk hnm hN hZ hK hA hP hD hS hl
  have hl : lv_has ls 2 [(0, .ref a0), (1, .int b1)] := hl
  generalize hQm : MQ below _ _ s _ _ A = Qm
  generalize (List.toArray _ : Array Value) = args at hC hQm ⊢
  obtain ⟨hx, hb, hml, hown, hts⟩ := id hC
  obtain ⟨H, hH⟩ : ∃ q, q = s.heap := ⟨_, rfl⟩
  obtain ⟨locs, hlo⟩ : ∃ q : List Loc, q = [] := ⟨_, rfl⟩
  have hP : va_P G cl [(a0, .inr (6, [.ref a1, .ref a2, .ref a3, .int v_tr_3, .ref a4, .ref a5, .int v_tr_6, .int v_tr_7, .int v_tr_8, .ref a6, .int v_tr_10, .ref a7, .ref a8, .ref a9, .ref a10, .int v_tr_15, .int v_tr_16, .int v_tr_17, .int v_tr_18, .int v_tr_19])), (a2, .inl (cI, 729, .inl g_tr_right))] H := by rw [hH]; exact hP
  have hS : va_S A s.heap H locs := by rw [hH, hlo]; exact hS
  rw [← hlo]
  rw [← hH]
  refine lv_iload_n hx hb dX6_rightOf_0 rfl (lv_at hl 1 rfl) ?_
  refine lv_if_lt (tgt := 20) hx hb dX6_rightOf_1 (by decide) (fun c1 => ?_) (fun c1 => ?_)
  · have dc1 : b1.toInt < 0 := (fa_lt _ _).mp c1; have lbc1_0 := i_lo b1; have ubc1_0 := i_hi b1
    refine lv_iconst (v := 0) hx hb dX6_rightOf_20 (by decide) ?_
    have l_l2 : (0 : Int32).toInt = 0 := rfl
    rw [← hQm]
    exact k_iret hC hr hlk hK hP hD hS () [0, 1] rfl (by decide +kernel) (show 0 ≤ (0 : Int32).toInt ∧ (0 : Int32).toInt ≤ 63 from by omega) (Nat.le_of_ble_eq_true rfl) (Nat.le_of_ble_eq_true rfl) dX6_rightOf_21
  · have dc1 : 0 ≤ b1.toInt := fa_nlt c1; have lbc1_0 := i_lo b1; have ubc1_0 := i_hi b1
    refine lv_iload_n hx hb dX6_rightOf_4 rfl (lv_at hl 1 rfl) ?_
    refine lv_sipush (v := 729) hx hb dX6_rightOf_5 (by decide) ?_
    refine lv_icmp_ge (tgt := 20) hx hb dX6_rightOf_8 (by decide) (fun c3 => ?_) (fun c3 => ?_)
    · have dc3 : 729 ≤ b1.toInt := (fa_le _ _).mp c3; have ubc3_1 := i_hi b1
      refine lv_iconst (v := 0) hx hb dX6_rightOf_20 (by decide) ?_
      have l_l4 : (0 : Int32).toInt = 0 := rfl
      rw [← hQm]
      exact k_iret hC hr hlk hK hP hD hS () [0, 1] rfl (by decide +kernel) (show 0 ≤ (0 : Int32).toInt ∧ (0 : Int32).toInt ≤ 63 from by omega) (Nat.le_of_ble_eq_true rfl) (Nat.le_of_ble_eq_true rfl) dX6_rightOf_21
    · have dc3 : b1.toInt < 729 := fa_nle c3; have ubc3_1 := i_hi b1
      refine lv_aload_n hx hb dX6_rightOf_11 rfl (lv_at hl 0 rfl) ?_
      refine k_get hC hK hP iX6 0 1 wf_X6_15 rfl (by decide) rfl rfl dX6_rightOf_12 ?_
      refine lv_iload_n hx hb dX6_rightOf_15 rfl (lv_at hl 1 rfl) ?_
      refine t_iald hC hK hP 1 rfl (by omega) (by omega) hT_g_tr_right dX6_rightOf_16 (fun z5 tz5 => ?_)
      refine lv_goto (tgt := 21) hx hb dX6_rightOf_17 (by decide) ?_
      rw [← hQm]
      exact k_iret hC hr hlk hK hP hD hS () [0, 1] rfl (by decide +kernel) (show 0 ≤ z5.toInt ∧ z5.toInt ≤ 63 from by omega) (Nat.le_of_ble_eq_true rfl) (Nat.le_of_ble_eq_true rfl) dX6_rightOf_21
theorem dX6_canBe_0 : decode cX6_canBe 0 = .ok (.aload_n 0, 1) := by decide +kernel
theorem dX6_canBe_1 : decode cX6_canBe 1 = .ok (.iload_n 1, 1) := by decide +kernel
theorem dX6_canBe_2 : decode cX6_canBe 2 = .ok (.invokevirtual 74, 3) := by decide +kernel
set_option maxRecDepth 100000 in
theorem wm_X6_74 : Cond.methodLink RX6 74 yX6_leftOf ∈ gw := gm (List.mem_of_getElem? (i := 1045) (by decide +kernel)) rfl
set_option maxRecDepth 100000 in
theorem mi_X6_leftOf : MI yX6_leftOf cX6_leftOf 2 (some .int) 1 := ⟨gm (List.mem_of_getElem? (i := 1048) rfl) rfl, gm (List.mem_of_getElem? (i := 122) (by decide +kernel)) rfl, by decide, by decide, by decide +kernel⟩
set_option maxRecDepth 100000 in
theorem in_X6_leftOf : Cond.instanceMethod yX6_leftOf ∈ gw := gm (List.mem_of_getElem? (i := 1046) (by decide +kernel)) rfl
set_option maxRecDepth 100000 in
theorem se_X6_leftOf : Cond.selects yX6_leftOf.cls yX6_leftOf yX6_leftOf ∈ gw := gm (List.mem_of_getElem? (i := 1047) (by decide +kernel)) rfl
theorem dX6_canBe_5 : decode cX6_canBe 5 = .ok (.ifCond .eq 32, 3) := by decide +kernel
theorem dX6_canBe_37 : decode cX6_canBe 37 = .ok (.iconst 0, 1) := by decide +kernel
theorem dX6_canBe_38 : decode cX6_canBe 38 = .ok (.ireturn, 1) := by decide +kernel
theorem dX6_canBe_8 : decode cX6_canBe 8 = .ok (.aload_n 0, 1) := by decide +kernel
theorem dX6_canBe_9 : decode cX6_canBe 9 = .ok (.iload_n 1, 1) := by decide +kernel
theorem dX6_canBe_10 : decode cX6_canBe 10 = .ok (.invokevirtual 78, 3) := by decide +kernel
set_option maxRecDepth 100000 in
theorem wm_X6_78 : Cond.methodLink RX6 78 yX6_rightOf ∈ gw := gm (List.mem_of_getElem? (i := 1049) (by decide +kernel)) rfl
set_option maxRecDepth 100000 in
theorem mi_X6_rightOf : MI yX6_rightOf cX6_rightOf 2 (some .int) 1 := ⟨gm (List.mem_of_getElem? (i := 1052) rfl) rfl, gm (List.mem_of_getElem? (i := 122) (by decide +kernel)) rfl, by decide, by decide, by decide +kernel⟩
set_option maxRecDepth 100000 in
theorem in_X6_rightOf : Cond.instanceMethod yX6_rightOf ∈ gw := gm (List.mem_of_getElem? (i := 1050) (by decide +kernel)) rfl
set_option maxRecDepth 100000 in
theorem se_X6_rightOf : Cond.selects yX6_rightOf.cls yX6_rightOf yX6_rightOf ∈ gw := gm (List.mem_of_getElem? (i := 1051) (by decide +kernel)) rfl
theorem dX6_canBe_13 : decode cX6_canBe 13 = .ok (.ifCond .eq 24, 3) := by decide +kernel
theorem dX6_canBe_16 : decode cX6_canBe 16 = .ok (.aload_n 0, 1) := by decide +kernel
theorem dX6_canBe_17 : decode cX6_canBe 17 = .ok (.iload_n 1, 1) := by decide +kernel
theorem dX6_canBe_18 : decode cX6_canBe 18 = .ok (.invokevirtual 74, 3) := by decide +kernel
theorem dX6_canBe_21 : decode cX6_canBe 21 = .ok (.aload_n 0, 1) := by decide +kernel
theorem dX6_canBe_22 : decode cX6_canBe 22 = .ok (.iload_n 1, 1) := by decide +kernel
theorem dX6_canBe_23 : decode cX6_canBe 23 = .ok (.invokevirtual 78, 3) := by decide +kernel
theorem dX6_canBe_26 : decode cX6_canBe 26 = .ok (.ior, 1) := by decide +kernel
theorem dX6_canBe_27 : decode cX6_canBe 27 = .ok (.iconst 1, 1) := by decide +kernel
theorem dX6_canBe_28 : decode cX6_canBe 28 = .ok (.iload_n 2, 1) := by decide +kernel
theorem dX6_canBe_29 : decode cX6_canBe 29 = .ok (.ishl, 1) := by decide +kernel
theorem dX6_canBe_30 : decode cX6_canBe 30 = .ok (.if_icmp .ge 7, 3) := by decide +kernel
theorem dX6_canBe_33 : decode cX6_canBe 33 = .ok (.iconst 1, 1) := by decide +kernel
theorem dX6_canBe_34 : decode cX6_canBe 34 = .ok (.goto 4, 3) := by decide +kernel
set_option maxHeartbeats 4000000 in
set_option maxRecDepth 100000 in
theorem c101_X6_canBe (l : Launch) (G : va_G) (cI cJ cB cZ : ClassId) (a0 a1 a2 a3 a4 a5 a6 a7 a8 a9 a10 : Nat) (b1 : Int32) (b2 : Int32) (v_tr_3 : Int32) (v_tr_6 : Int32) (v_tr_7 : Int32) (v_tr_8 : Int32) (v_tr_10 : Int32) (v_tr_15 : Int32) (v_tr_16 : Int32) (v_tr_17 : Int32) (v_tr_18 : Int32) (v_tr_19 : Int32) (g_tr_left : Nat → Int32) (g_tr_right : Nat → Int32) (hv_0 : 0 ≤ v_tr_3.toInt) (hv_1 : v_tr_3.toInt ≤ 729) (hv_2 : 0 ≤ v_tr_10.toInt) (hv_3 : v_tr_10.toInt ≤ 240) (hv_4 : 0 ≤ v_tr_15.toInt) (hv_5 : v_tr_15.toInt ≤ 3) (hT_g_tr_left : TA 0 63 g_tr_left) (hT_g_tr_right : TA 0 63 g_tr_right) : Con l G (TY cI cJ cB cZ) yX6_canBe cX6_canBe 3 (some .boolean) ({ frames := 1, cells := 0, slots := 0, locals := 21 } : Room) [.ref a0, .int b1, .int b2] [(a0, .inr (6, [.ref a1, .ref a2, .ref a3, .int v_tr_3, .ref a4, .ref a5, .int v_tr_6, .int v_tr_7, .int v_tr_8, .ref a6, .int v_tr_10, .ref a7, .ref a8, .ref a9, .ref a10, .int v_tr_15, .int v_tr_16, .int v_tr_17, .int v_tr_18, .int v_tr_19])), (a1, .inl (cI, 729, .inl g_tr_left)), (a2, .inl (cI, 729, .inl g_tr_right))] (QI G (TY cI cJ cB cZ) (fun (r : Int32) (u : Unit) => (0 ≤ r.toInt ∧ r.toInt ≤ 1)) (fun u : Unit => [(a0, .inr (6, [.ref a1, .ref a2, .ref a3, .int v_tr_3, .ref a4, .ref a5, .int v_tr_6, .int v_tr_7, .int v_tr_8, .ref a6, .int v_tr_10, .ref a7, .ref a8, .ref a9, .ref a10, .int v_tr_15, .int v_tr_16, .int v_tr_17, .int v_tr_18, .int v_tr_19])), (a1, .inl (cI, 729, .inl g_tr_left)), (a2, .inl (cI, 729, .inl g_tr_right))])) := by
  refine k_met (by decide) (Nat.le_of_ble_eq_true rfl) ?_
  intro p e s m below meth c A ls hC hr hlk hnm hN hZ hK hA hP hD hS hl
  have hl : lv_has ls 3 [(0, .ref a0), (1, .int b1), (2, .int b2)] := hl
  generalize hQm : MQ below _ _ s _ _ A = Qm
  generalize (List.toArray _ : Array Value) = args at hC hQm ⊢
  obtain ⟨hx, hb, hml, hown, hts⟩ := id hC
  obtain ⟨H, hH⟩ : ∃ q, q = s.heap := ⟨_, rfl⟩
  obtain ⟨locs, hlo⟩ : ∃ q : List Loc, q = [] := ⟨_, rfl⟩
  have hP : va_P G cl [(a0, .inr (6, [.ref a1, .ref a2, .ref a3, .int v_tr_3, .ref a4, .ref a5, .int v_tr_6, .int v_tr_7, .int v_tr_8, .ref a6, .int v_tr_10, .ref a7, .ref a8, .ref a9, .ref a10, .int v_tr_15, .int v_tr_16, .int v_tr_17, .int v_tr_18, .int v_tr_19])), (a1, .inl (cI, 729, .inl g_tr_left)), (a2, .inl (cI, 729, .inl g_tr_right))] H := by rw [hH]; exact hP
  have hS : va_S A s.heap H locs := by rw [hH, hlo]; exact hS
  rw [← hlo]
  rw [← hH]
  refine lv_aload_n hx hb dX6_canBe_0 rfl (lv_at hl 0 rfl) ?_
  refine lv_iload_n hx hb dX6_canBe_1 rfl (lv_at hl 1 rfl) ?_
  refine k_ci (wr := [(a2, .inl (cI, 729, .inl g_tr_right))]) (k_rV hC hN hZ hS hA hK hP hD (c99_X6_leftOf l G cI cJ cB cZ a0 a1 a2 a3 a4 a5 a6 a7 a8 a9 a10 b1 v_tr_3 v_tr_6 v_tr_7 v_tr_8 v_tr_10 v_tr_15 v_tr_16 v_tr_17 v_tr_18 v_tr_19 g_tr_left hv_0 hv_1 hv_2 hv_3 hv_4 hv_5 hT_g_tr_left) [0, 1] rfl (by decide +kernel) mi_X6_leftOf in_X6_leftOf se_X6_leftOf wm_X6_74 6 0 rfl rfl rfl hl.1 rfl rfl (Nat.le_of_ble_eq_true rfl) ⟨(Nat.le_of_ble_eq_true rfl), (Nat.le_of_ble_eq_true rfl)⟩ dX6_canBe_2 ⟨(Nat.le_of_ble_eq_true rfl), (Nat.le_of_ble_eq_true rfl)⟩) hP hD hS hA [0, 1] [2] rfl rfl (by decide +kernel) (by decide +kernel) (fun r1 u1 H locs hp hP hD hS => ?_)
  have hp : (0 ≤ r1.toInt ∧ r1.toInt ≤ 63) := hp
  have hP : va_P G cl [(a2, .inl (cI, 729, .inl g_tr_right)), (a0, .inr (6, [.ref a1, .ref a2, .ref a3, .int v_tr_3, .ref a4, .ref a5, .int v_tr_6, .int v_tr_7, .int v_tr_8, .ref a6, .int v_tr_10, .ref a7, .ref a8, .ref a9, .ref a10, .int v_tr_15, .int v_tr_16, .int v_tr_17, .int v_tr_18, .int v_tr_19])), (a1, .inl (cI, 729, .inl g_tr_left))] H := hP
  have hD : va_D A [(a2, .inl (cI, 729, .inl g_tr_right)), (a0, .inr (6, [.ref a1, .ref a2, .ref a3, .int v_tr_3, .ref a4, .ref a5, .int v_tr_6, .int v_tr_7, .int v_tr_8, .ref a6, .int v_tr_10, .ref a7, .ref a8, .ref a9, .ref a10, .int v_tr_15, .int v_tr_16, .int v_tr_17, .int v_tr_18, .int v_tr_19])), (a1, .inl (cI, 729, .inl g_tr_left))] := hD
  have hq1 := hp
  refine lv_if_eq (tgt := 37) hx hb dX6_canBe_5 (by decide) (fun c2 => ?_) (fun c2 => ?_)
  · have dc2 : r1.toInt = 0 := (fa_eq _ _).mp c2
    refine lv_iconst (v := 0) hx hb dX6_canBe_37 (by decide) ?_
    have l_l3 : (0 : Int32).toInt = 0 := rfl
    rw [← hQm]
    exact k_zret hC hr hlk hK hP hD hS () [1, 2, 0] rfl (by decide +kernel) rfl (show 0 ≤ (0 : Int32).toInt ∧ (0 : Int32).toInt ≤ 1 from by omega) (Nat.le_of_ble_eq_true rfl) (Nat.le_of_ble_eq_true rfl) dX6_canBe_38
  · have dc2 : r1.toInt ≠ 0 := fa_ne c2
    refine lv_aload_n hx hb dX6_canBe_8 rfl (lv_at hl 0 rfl) ?_
    refine lv_iload_n hx hb dX6_canBe_9 rfl (lv_at hl 1 rfl) ?_
    refine k_ci (wr := [(a1, .inl (cI, 729, .inl g_tr_left))]) (k_rV hC hN hZ hS hA hK hP hD (c100_X6_rightOf l G cI cJ cB cZ a0 a1 a2 a3 a4 a5 a6 a7 a8 a9 a10 b1 v_tr_3 v_tr_6 v_tr_7 v_tr_8 v_tr_10 v_tr_15 v_tr_16 v_tr_17 v_tr_18 v_tr_19 g_tr_right hv_0 hv_1 hv_2 hv_3 hv_4 hv_5 hT_g_tr_right) [1, 0] rfl (by decide +kernel) mi_X6_rightOf in_X6_rightOf se_X6_rightOf wm_X6_78 6 1 rfl rfl rfl hl.1 rfl rfl (Nat.le_of_ble_eq_true rfl) ⟨(Nat.le_of_ble_eq_true rfl), (Nat.le_of_ble_eq_true rfl)⟩ dX6_canBe_10 ⟨(Nat.le_of_ble_eq_true rfl), (Nat.le_of_ble_eq_true rfl)⟩) hP hD hS hA [1, 0] [2] rfl rfl (by decide +kernel) (by decide +kernel) (fun r4 u4 H locs hp hP hD hS => ?_)
    have hp : (0 ≤ r4.toInt ∧ r4.toInt ≤ 63) := hp
    have hP : va_P G cl [(a1, .inl (cI, 729, .inl g_tr_left)), (a0, .inr (6, [.ref a1, .ref a2, .ref a3, .int v_tr_3, .ref a4, .ref a5, .int v_tr_6, .int v_tr_7, .int v_tr_8, .ref a6, .int v_tr_10, .ref a7, .ref a8, .ref a9, .ref a10, .int v_tr_15, .int v_tr_16, .int v_tr_17, .int v_tr_18, .int v_tr_19])), (a2, .inl (cI, 729, .inl g_tr_right))] H := hP
    have hD : va_D A [(a1, .inl (cI, 729, .inl g_tr_left)), (a0, .inr (6, [.ref a1, .ref a2, .ref a3, .int v_tr_3, .ref a4, .ref a5, .int v_tr_6, .int v_tr_7, .int v_tr_8, .ref a6, .int v_tr_10, .ref a7, .ref a8, .ref a9, .ref a10, .int v_tr_15, .int v_tr_16, .int v_tr_17, .int v_tr_18, .int v_tr_19])), (a2, .inl (cI, 729, .inl g_tr_right))] := hD
    have hq4 := hp
    refine lv_if_eq (tgt := 37) hx hb dX6_canBe_13 (by decide) (fun c5 => ?_) (fun c5 => ?_)
    · have dc5 : r4.toInt = 0 := (fa_eq _ _).mp c5
      refine lv_iconst (v := 0) hx hb dX6_canBe_37 (by decide) ?_
      have l_l6 : (0 : Int32).toInt = 0 := rfl
      rw [← hQm]
      exact k_zret hC hr hlk hK hP hD hS () [1, 0, 2] rfl (by decide +kernel) rfl (show 0 ≤ (0 : Int32).toInt ∧ (0 : Int32).toInt ≤ 1 from by omega) (Nat.le_of_ble_eq_true rfl) (Nat.le_of_ble_eq_true rfl) dX6_canBe_38
    · have dc5 : r4.toInt ≠ 0 := fa_ne c5
      refine lv_aload_n hx hb dX6_canBe_16 rfl (lv_at hl 0 rfl) ?_
      refine lv_iload_n hx hb dX6_canBe_17 rfl (lv_at hl 1 rfl) ?_
      refine k_ci (wr := [(a2, .inl (cI, 729, .inl g_tr_right))]) (k_rV hC hN hZ hS hA hK hP hD (c99_X6_leftOf l G cI cJ cB cZ a0 a1 a2 a3 a4 a5 a6 a7 a8 a9 a10 b1 v_tr_3 v_tr_6 v_tr_7 v_tr_8 v_tr_10 v_tr_15 v_tr_16 v_tr_17 v_tr_18 v_tr_19 g_tr_left hv_0 hv_1 hv_2 hv_3 hv_4 hv_5 hT_g_tr_left) [1, 0] rfl (by decide +kernel) mi_X6_leftOf in_X6_leftOf se_X6_leftOf wm_X6_74 6 1 rfl rfl rfl hl.1 rfl rfl (Nat.le_of_ble_eq_true rfl) ⟨(Nat.le_of_ble_eq_true rfl), (Nat.le_of_ble_eq_true rfl)⟩ dX6_canBe_18 ⟨(Nat.le_of_ble_eq_true rfl), (Nat.le_of_ble_eq_true rfl)⟩) hP hD hS hA [1, 0] [2] rfl rfl (by decide +kernel) (by decide +kernel) (fun r7 u7 H locs hp hP hD hS => ?_)
      have hp : (0 ≤ r7.toInt ∧ r7.toInt ≤ 63) := hp
      have hP : va_P G cl [(a2, .inl (cI, 729, .inl g_tr_right)), (a0, .inr (6, [.ref a1, .ref a2, .ref a3, .int v_tr_3, .ref a4, .ref a5, .int v_tr_6, .int v_tr_7, .int v_tr_8, .ref a6, .int v_tr_10, .ref a7, .ref a8, .ref a9, .ref a10, .int v_tr_15, .int v_tr_16, .int v_tr_17, .int v_tr_18, .int v_tr_19])), (a1, .inl (cI, 729, .inl g_tr_left))] H := hP
      have hD : va_D A [(a2, .inl (cI, 729, .inl g_tr_right)), (a0, .inr (6, [.ref a1, .ref a2, .ref a3, .int v_tr_3, .ref a4, .ref a5, .int v_tr_6, .int v_tr_7, .int v_tr_8, .ref a6, .int v_tr_10, .ref a7, .ref a8, .ref a9, .ref a10, .int v_tr_15, .int v_tr_16, .int v_tr_17, .int v_tr_18, .int v_tr_19])), (a1, .inl (cI, 729, .inl g_tr_left))] := hD
      have hq7 := hp
      refine lv_aload_n hx hb dX6_canBe_21 rfl (lv_at hl 0 rfl) ?_
      refine lv_iload_n hx hb dX6_canBe_22 rfl (lv_at hl 1 rfl) ?_
      refine k_ci (wr := [(a1, .inl (cI, 729, .inl g_tr_left))]) (k_rV hC hN hZ hS hA hK hP hD (c100_X6_rightOf l G cI cJ cB cZ a0 a1 a2 a3 a4 a5 a6 a7 a8 a9 a10 b1 v_tr_3 v_tr_6 v_tr_7 v_tr_8 v_tr_10 v_tr_15 v_tr_16 v_tr_17 v_tr_18 v_tr_19 g_tr_right hv_0 hv_1 hv_2 hv_3 hv_4 hv_5 hT_g_tr_right) [1, 0] rfl (by decide +kernel) mi_X6_rightOf in_X6_rightOf se_X6_rightOf wm_X6_78 6 1 rfl rfl rfl hl.1 rfl rfl (Nat.le_of_ble_eq_true rfl) ⟨(Nat.le_of_ble_eq_true rfl), (Nat.le_of_ble_eq_true rfl)⟩ dX6_canBe_23 ⟨(Nat.le_of_ble_eq_true rfl), (Nat.le_of_ble_eq_true rfl)⟩) hP hD hS hA [1, 0] [2] rfl rfl (by decide +kernel) (by decide +kernel) (fun r8 u8 H locs hp hP hD hS => ?_)
      have hp : (0 ≤ r8.toInt ∧ r8.toInt ≤ 63) := hp
      have hP : va_P G cl [(a1, .inl (cI, 729, .inl g_tr_left)), (a0, .inr (6, [.ref a1, .ref a2, .ref a3, .int v_tr_3, .ref a4, .ref a5, .int v_tr_6, .int v_tr_7, .int v_tr_8, .ref a6, .int v_tr_10, .ref a7, .ref a8, .ref a9, .ref a10, .int v_tr_15, .int v_tr_16, .int v_tr_17, .int v_tr_18, .int v_tr_19])), (a2, .inl (cI, 729, .inl g_tr_right))] H := hP
      have hD : va_D A [(a1, .inl (cI, 729, .inl g_tr_left)), (a0, .inr (6, [.ref a1, .ref a2, .ref a3, .int v_tr_3, .ref a4, .ref a5, .int v_tr_6, .int v_tr_7, .int v_tr_8, .ref a6, .int v_tr_10, .ref a7, .ref a8, .ref a9, .ref a10, .int v_tr_15, .int v_tr_16, .int v_tr_17, .int v_tr_18, .int v_tr_19])), (a2, .inl (cI, 729, .inl g_tr_right))] := hD
      have hq8 := hp
      refine lv_ior hx hb dX6_canBe_26 ?_
      refine t_i (fun q => 0 ≤ q.toInt ∧ q.toInt < 64) (or_b (k := 6) (by decide) (by omega) (by omega) (by omega) (by omega)) (fun z9 tz9 => ?_)
      refine lv_iconst (v := 1) hx hb dX6_canBe_27 (by decide) ?_
      refine lv_iload_n hx hb dX6_canBe_28 rfl (lv_at hl 2 rfl) ?_
      refine lv_ishl hx hb dX6_canBe_29 ?_
      refine lv_topi (fun z10 _ => ?_)
      refine lv_icmp_ge (tgt := 37) hx hb dX6_canBe_30 (by decide) (fun c11 => ?_) (fun c11 => ?_)
      · have dc11 : z10.toInt ≤ z9.toInt := (fa_le _ _).mp c11; have lbc11_0 := i_lo z10; have ubc11_0 := i_hi z10
        refine lv_iconst (v := 0) hx hb dX6_canBe_37 (by decide) ?_
        have l_l12 : (0 : Int32).toInt = 0 := rfl
        rw [← hQm]
        exact k_zret hC hr hlk hK hP hD hS () [1, 0, 2] rfl (by decide +kernel) rfl (show 0 ≤ (0 : Int32).toInt ∧ (0 : Int32).toInt ≤ 1 from by omega) (Nat.le_of_ble_eq_true rfl) (Nat.le_of_ble_eq_true rfl) dX6_canBe_38
      · have dc11 : z9.toInt < z10.toInt := fa_nle c11; have lbc11_0 := i_lo z10; have ubc11_0 := i_hi z10
        refine lv_iconst (v := 1) hx hb dX6_canBe_33 (by decide) ?_
        refine lv_goto (tgt := 38) hx hb dX6_canBe_34 (by decide) ?_
        have l_l13 : (1 : Int32).toInt = 1 := rfl
        rw [← hQm]
        exact k_zret hC hr hlk hK hP hD hS () [1, 0, 2] rfl (by decide +kernel) rfl (show 0 ≤ (1 : Int32).toInt ∧ (1 : Int32).toInt ≤ 1 from by omega) (Nat.le_of_ble_eq_true rfl) (Nat.le_of_ble_eq_true rfl) dX6_canBe_38
theorem dX6_list_0 : decode cX6_list 0 = .ok (.iconst 0, 1) := by decide +kernel
theorem dX6_list_1 : decode cX6_list 1 = .ok (.istore 4, 2) := by decide +kernel
theorem dX6_list_3 : decode cX6_list 3 = .ok (.iconst 0, 1) := by decide +kernel
theorem dX6_list_4 : decode cX6_list 4 = .ok (.istore 5, 2) := by decide +kernel
theorem dX6_list_6 : decode cX6_list 6 = .ok (.iload 5, 2) := by decide +kernel
theorem dX6_list_8 : decode cX6_list 8 = .ok (.sipush 729, 3) := by decide +kernel
theorem dX6_list_11 : decode cX6_list 11 = .ok (.if_icmp .ge 75, 3) := by decide +kernel
theorem dX6_list_86 : decode cX6_list 86 = .ok (.iload 4, 2) := by decide +kernel
theorem dX6_list_88 : decode cX6_list 88 = .ok (.ireturn, 1) := by decide +kernel
theorem dX6_list_14 : decode cX6_list 14 = .ok (.iload 4, 2) := by decide +kernel
theorem dX6_list_16 : decode cX6_list 16 = .ok (.aload_n 1, 1) := by decide +kernel
theorem dX6_list_17 : decode cX6_list 17 = .ok (.arraylength, 1) := by decide +kernel
theorem dX6_list_18 : decode cX6_list 18 = .ok (.if_icmp .ge 68, 3) := by decide +kernel
theorem dX6_list_21 : decode cX6_list 21 = .ok (.aload_n 0, 1) := by decide +kernel
theorem dX6_list_22 : decode cX6_list 22 = .ok (.getfield 11, 3) := by decide +kernel
theorem dX6_list_25 : decode cX6_list 25 = .ok (.iload 5, 2) := by decide +kernel
theorem dX6_list_27 : decode cX6_list 27 = .ok (.iaload, 1) := by decide +kernel
theorem dX6_list_28 : decode cX6_list 28 = .ok (.invokestatic 115, 3) := by decide +kernel
set_option maxRecDepth 100000 in
theorem wm_X6_115 : Cond.methodLink RX6 115 yJ6_bitCount_0f7a4 ∈ gw := gm (List.mem_of_getElem? (i := 1040) (by decide +kernel)) rfl
theorem dX6_list_31 : decode cX6_list 31 = .ok (.iload_n 3, 1) := by decide +kernel
theorem dX6_list_32 : decode cX6_list 32 = .ok (.if_icmp .gt 21, 3) := by decide +kernel
theorem dX6_list_53 : decode cX6_list 53 = .ok (.iconst 0, 1) := by decide +kernel
theorem dX6_list_54 : decode cX6_list 54 = .ok (.istore 6, 2) := by decide +kernel
theorem dX6_list_56 : decode cX6_list 56 = .ok (.iload 6, 2) := by decide +kernel
theorem dX6_list_58 : decode cX6_list 58 = .ok (.ifCond .eq 22, 3) := by decide +kernel
theorem dX6_list_80 : decode cX6_list 80 = .ok (.iinc 5 1, 3) := by decide +kernel
theorem dX6_list_83 : decode cX6_list 83 = .ok (.goto (-77), 3) := by decide +kernel
theorem dX6_list_35 : decode cX6_list 35 = .ok (.aload_n 0, 1) := by decide +kernel
theorem dX6_list_36 : decode cX6_list 36 = .ok (.getfield 15, 3) := by decide +kernel
theorem dX6_list_39 : decode cX6_list 39 = .ok (.iload 5, 2) := by decide +kernel
theorem dX6_list_41 : decode cX6_list 41 = .ok (.iaload, 1) := by decide +kernel
theorem dX6_list_42 : decode cX6_list 42 = .ok (.invokestatic 115, 3) := by decide +kernel
theorem dX6_list_45 : decode cX6_list 45 = .ok (.iload_n 3, 1) := by decide +kernel
theorem dX6_list_46 : decode cX6_list 46 = .ok (.if_icmp .gt 7, 3) := by decide +kernel
theorem dX6_list_49 : decode cX6_list 49 = .ok (.iconst 1, 1) := by decide +kernel
theorem dX6_list_50 : decode cX6_list 50 = .ok (.goto 4, 3) := by decide +kernel
theorem dX6_list_61 : decode cX6_list 61 = .ok (.aload_n 0, 1) := by decide +kernel
theorem dX6_list_62 : decode cX6_list 62 = .ok (.iload 5, 2) := by decide +kernel
theorem dX6_list_64 : decode cX6_list 64 = .ok (.iload_n 2, 1) := by decide +kernel
theorem dX6_list_65 : decode cX6_list 65 = .ok (.invokevirtual 120, 3) := by decide +kernel
set_option maxRecDepth 100000 in
theorem wm_X6_120 : Cond.methodLink RX6 120 yX6_canBe ∈ gw := gm (List.mem_of_getElem? (i := 1041) (by decide +kernel)) rfl
set_option maxRecDepth 100000 in
theorem mi_X6_canBe : MI yX6_canBe cX6_canBe 3 (some .boolean) 2 := ⟨gm (List.mem_of_getElem? (i := 1044) rfl) rfl, gm (List.mem_of_getElem? (i := 122) (by decide +kernel)) rfl, by decide, by decide, by decide +kernel⟩
set_option maxRecDepth 100000 in
theorem in_X6_canBe : Cond.instanceMethod yX6_canBe ∈ gw := gm (List.mem_of_getElem? (i := 1042) (by decide +kernel)) rfl
set_option maxRecDepth 100000 in
theorem se_X6_canBe : Cond.selects yX6_canBe.cls yX6_canBe yX6_canBe ∈ gw := gm (List.mem_of_getElem? (i := 1043) (by decide +kernel)) rfl
theorem dX6_list_68 : decode cX6_list 68 = .ok (.ifCond .eq 12, 3) := by decide +kernel
theorem dX6_list_71 : decode cX6_list 71 = .ok (.aload_n 1, 1) := by decide +kernel
theorem dX6_list_72 : decode cX6_list 72 = .ok (.iload 4, 2) := by decide +kernel
theorem dX6_list_74 : decode cX6_list 74 = .ok (.iload 5, 2) := by decide +kernel
theorem dX6_list_76 : decode cX6_list 76 = .ok (.iastore, 1) := by decide +kernel
theorem dX6_list_77 : decode cX6_list 77 = .ok (.iinc 4 1, 3) := by decide +kernel
set_option maxHeartbeats 4000000 in
set_option maxRecDepth 100000 in
theorem c102_X6_list (l : Launch) (G : va_G) (cI cJ cB cZ : ClassId) (a0 a1 a2 a3 a4 a5 a6 a7 a8 a9 a10 : Nat) (b2 : Int32) (b3 : Int32) (v_tr_3 : Int32) (v_tr_6 : Int32) (v_tr_7 : Int32) (v_tr_8 : Int32) (v_tr_10 : Int32) (v_tr_15 : Int32) (v_tr_16 : Int32) (v_tr_17 : Int32) (v_tr_18 : Int32) (v_tr_19 : Int32) (g_tr_codes : Nat → Int32) (g_tr_left : Nat → Int32) (g_tr_right : Nat → Int32) (hv_0 : 0 ≤ v_tr_3.toInt) (hv_1 : v_tr_3.toInt ≤ 729) (hv_2 : 0 ≤ v_tr_10.toInt) (hv_3 : v_tr_10.toInt ≤ 240) (hv_4 : 0 ≤ v_tr_15.toInt) (hv_5 : v_tr_15.toInt ≤ 3) (hT_g_tr_codes : TA 0 728 g_tr_codes) (hT_g_tr_left : TA 0 63 g_tr_left) (hT_g_tr_right : TA 0 63 g_tr_right) : Con l G (TY cI cJ cB cZ) yX6_list cX6_list 7 (some .int) ({ frames := 2, cells := 0, slots := 0, locals := 43 } : Room) [.ref a0, .ref a1, .int b2, .int b3] [(a1, .inl (cI, 729, .inl g_tr_codes)), (a0, .inr (6, [.ref a2, .ref a3, .ref a1, .int v_tr_3, .ref a4, .ref a5, .int v_tr_6, .int v_tr_7, .int v_tr_8, .ref a6, .int v_tr_10, .ref a7, .ref a8, .ref a9, .ref a10, .int v_tr_15, .int v_tr_16, .int v_tr_17, .int v_tr_18, .int v_tr_19])), (a2, .inl (cI, 729, .inl g_tr_left)), (a3, .inl (cI, 729, .inl g_tr_right))] (QI G (TY cI cJ cB cZ) (fun (r : Int32) (u : (Nat → Int32)) => (0 ≤ r.toInt ∧ r.toInt ≤ 729) ∧ TA 0 728 u) (fun u : (Nat → Int32) => [(a1, .inl (cI, 729, .inl u)), (a0, .inr (6, [.ref a2, .ref a3, .ref a1, .int v_tr_3, .ref a4, .ref a5, .int v_tr_6, .int v_tr_7, .int v_tr_8, .ref a6, .int v_tr_10, .ref a7, .ref a8, .ref a9, .ref a10, .int v_tr_15, .int v_tr_16, .int v_tr_17, .int v_tr_18, .int v_tr_19])), (a2, .inl (cI, 729, .inl g_tr_left)), (a3, .inl (cI, 729, .inl g_tr_right))])) := by
  refine k_met (by decide) (Nat.le_of_ble_eq_true rfl) ?_
  intro p e s m below meth c A ls hC hr hlk hnm hN hZ hK hA hP hD hS hl
  have hl : lv_has ls 7 [(0, .ref a0), (1, .ref a1), (2, .int b2), (3, .int b3)] := hl
  generalize hQm : MQ below _ _ s _ _ A = Qm
  generalize (List.toArray _ : Array Value) = args at hC hQm ⊢
  obtain ⟨hx, hb, hml, hown, hts⟩ := id hC
  obtain ⟨H, hH⟩ : ∃ q, q = s.heap := ⟨_, rfl⟩
  obtain ⟨locs, hlo⟩ : ∃ q : List Loc, q = [] := ⟨_, rfl⟩
  have hP : va_P G cl [(a1, .inl (cI, 729, .inl g_tr_codes)), (a0, .inr (6, [.ref a2, .ref a3, .ref a1, .int v_tr_3, .ref a4, .ref a5, .int v_tr_6, .int v_tr_7, .int v_tr_8, .ref a6, .int v_tr_10, .ref a7, .ref a8, .ref a9, .ref a10, .int v_tr_15, .int v_tr_16, .int v_tr_17, .int v_tr_18, .int v_tr_19])), (a2, .inl (cI, 729, .inl g_tr_left)), (a3, .inl (cI, 729, .inl g_tr_right))] H := by rw [hH]; exact hP
  have hS : va_S A s.heap H locs := by rw [hH, hlo]; exact hS
  rw [← hlo]
  rw [← hH]
  refine lv_iconst (v := 0) hx hb dX6_list_0 (by decide) ?_
  refine lv_istore (lv' := [(4, .int 0), (0, .ref a0), (1, .ref a1), (2, .int b2), (3, .int b3)]) hx hb dX6_list_1 hl (by decide) rfl (fun ls hl => ?_)
  refine lv_iconst (v := 0) hx hb dX6_list_3 (by decide) ?_
  refine lv_istore (lv' := [(5, .int 0), (4, .int 0), (0, .ref a0), (1, .ref a1), (2, .int b2), (3, .int b3)]) hx hb dX6_list_4 hl (by decide) rfl (fun ls hl => ?_)
  have L_6 : ∀ (n : Nat) (x1 : Int32) (x2 : Int32) (f3 : Nat → Int32) (H : Heap) (locs : List Loc) (ls : Array Slot), (0 ≤ x1.toInt ∧ x1.toInt ≤ 729 ∧ 0 ≤ x2.toInt ∧ x2.toInt ≤ 729) → 729 - x1.toInt < (n : Int) → TA 0 728 f3 → va_P G cl [(a1, .inl (cI, 729, .inl f3)), (a0, .inr (6, [.ref a2, .ref a3, .ref a1, .int v_tr_3, .ref a4, .ref a5, .int v_tr_6, .int v_tr_7, .int v_tr_8, .ref a6, .int v_tr_10, .ref a7, .ref a8, .ref a9, .ref a10, .int v_tr_15, .int v_tr_16, .int v_tr_17, .int v_tr_18, .int v_tr_19])), (a2, .inl (cI, 729, .inl g_tr_left)), (a3, .inl (cI, 729, .inl g_tr_right))] H → va_D A [(a1, .inl (cI, 729, .inl f3)), (a0, .inr (6, [.ref a2, .ref a3, .ref a1, .int v_tr_3, .ref a4, .ref a5, .int v_tr_6, .int v_tr_7, .int v_tr_8, .ref a6, .int v_tr_10, .ref a7, .ref a8, .ref a9, .ref a10, .int v_tr_15, .int v_tr_16, .int v_tr_17, .int v_tr_18, .int v_tr_19])), (a2, .inl (cI, 729, .inl g_tr_left)), (a3, .inl (cI, 729, .inl g_tr_right))] → va_S A s.heap H locs → lv_has ls 7 [(0, .ref a0), (1, .ref a1), (2, .int b2), (3, .int b3), (4, .int x2), (5, .int x1)] → W p l e ({ frames := 2, cells := 0, slots := 0, locals := 43 } : Room) s m args below meth c H locs 0 0 Qm (F0 m 6 ls []) := by
    intro n
    induction n with
    | zero => intro x1 x2 f3 H locs ls hv hm; omega
    | succ n ih =>
      intro x1 x2 f3 H locs ls hv hm hT_f3 hP hD hS hl
      refine lv_iload hx hb dX6_list_6 (lv_at hl 5 rfl) ?_
      refine lv_sipush (v := 729) hx hb dX6_list_8 (by decide) ?_
      refine lv_icmp_ge (tgt := 86) hx hb dX6_list_11 (by decide) (fun c4 => ?_) (fun c4 => ?_)
      · have dc4 : 729 ≤ x1.toInt := (fa_le _ _).mp c4
        refine lv_iload hx hb dX6_list_86 (lv_at hl 4 rfl) ?_
        rw [← hQm]
        exact k_iret hC hr hlk hK hP hD hS f3 [0, 1, 2, 3] rfl (by decide +kernel) ⟨(show 0 ≤ x2.toInt ∧ x2.toInt ≤ 729 from by omega), hT_f3⟩ (Nat.le_of_ble_eq_true rfl) (Nat.le_of_ble_eq_true rfl) dX6_list_88
      · have dc4 : x1.toInt < 729 := fa_nle c4
        refine lv_iload hx hb dX6_list_14 (lv_at hl 4 rfl) ?_
        refine lv_aload_n hx hb dX6_list_16 rfl (lv_at hl 1 rfl) ?_
        refine k_alen hC hK hP 0 0 729 rfl rfl rfl dX6_list_17 ?_
        refine lv_icmp_ge (tgt := 86) hx hb dX6_list_18 (by decide) (fun c5 => ?_) (fun c5 => ?_)
        · have dc5 : 729 ≤ x2.toInt := (fa_le _ _).mp c5
          refine lv_iload hx hb dX6_list_86 (lv_at hl 4 rfl) ?_
          rw [← hQm]
          exact k_iret hC hr hlk hK hP hD hS f3 [0, 1, 2, 3] rfl (by decide +kernel) ⟨(show 0 ≤ x2.toInt ∧ x2.toInt ≤ 729 from by omega), hT_f3⟩ (Nat.le_of_ble_eq_true rfl) (Nat.le_of_ble_eq_true rfl) dX6_list_88
        · have dc5 : x2.toInt < 729 := fa_nle c5
          refine lv_aload_n hx hb dX6_list_21 rfl (lv_at hl 0 rfl) ?_
          refine k_get hC hK hP iX6 1 0 wf_X6_11 rfl (by decide) rfl rfl dX6_list_22 ?_
          refine lv_iload hx hb dX6_list_25 (lv_at hl 5 rfl) ?_
          refine t_iald hC hK hP 2 rfl (by omega) (by omega) hT_g_tr_left dX6_list_27 (fun z6 tz6 => ?_)
          refine k_ci (wr := [(a1, .inl (cI, 729, .inl f3)), (a0, .inr (6, [.ref a2, .ref a3, .ref a1, .int v_tr_3, .ref a4, .ref a5, .int v_tr_6, .int v_tr_7, .int v_tr_8, .ref a6, .int v_tr_10, .ref a7, .ref a8, .ref a9, .ref a10, .int v_tr_15, .int v_tr_16, .int v_tr_17, .int v_tr_18, .int v_tr_19])), (a2, .inl (cI, 729, .inl g_tr_left)), (a3, .inl (cI, 729, .inl g_tr_right))]) (k_rS hC hN hZ hS hA hK hP hD (c90_J6_bitCount_0f7a4 l G cI cJ cB cZ z6) [] rfl (by decide +kernel) mi_J6_bitCount_0f7a4 st_J6_bitCount_0f7a4 wm_X6_115 hl.1 rfl rfl (Nat.le_of_ble_eq_true rfl) ⟨(Nat.le_of_ble_eq_true rfl), (Nat.le_of_ble_eq_true rfl)⟩ dX6_list_28 ⟨(Nat.le_of_ble_eq_true rfl), (Nat.le_of_ble_eq_true rfl)⟩) hP hD hS hA [] [0, 1, 2, 3] rfl rfl (by decide +kernel) (by decide +kernel) (fun r7 u7 H locs hp hP hD hS => ?_)
          have hp : (0 ≤ r7.toInt ∧ r7.toInt ≤ 63) := hp
          have hP : va_P G cl [(a1, .inl (cI, 729, .inl f3)), (a0, .inr (6, [.ref a2, .ref a3, .ref a1, .int v_tr_3, .ref a4, .ref a5, .int v_tr_6, .int v_tr_7, .int v_tr_8, .ref a6, .int v_tr_10, .ref a7, .ref a8, .ref a9, .ref a10, .int v_tr_15, .int v_tr_16, .int v_tr_17, .int v_tr_18, .int v_tr_19])), (a2, .inl (cI, 729, .inl g_tr_left)), (a3, .inl (cI, 729, .inl g_tr_right))] H := hP
          have hD : va_D A [(a1, .inl (cI, 729, .inl f3)), (a0, .inr (6, [.ref a2, .ref a3, .ref a1, .int v_tr_3, .ref a4, .ref a5, .int v_tr_6, .int v_tr_7, .int v_tr_8, .ref a6, .int v_tr_10, .ref a7, .ref a8, .ref a9, .ref a10, .int v_tr_15, .int v_tr_16, .int v_tr_17, .int v_tr_18, .int v_tr_19])), (a2, .inl (cI, 729, .inl g_tr_left)), (a3, .inl (cI, 729, .inl g_tr_right))] := hD
          have hq7 := hp
          refine lv_iload_n hx hb dX6_list_31 rfl (lv_at hl 3 rfl) ?_
          refine lv_icmp_gt (tgt := 53) hx hb dX6_list_32 (by decide) (fun c8 => ?_) (fun c8 => ?_)
          · have dc8 : b3.toInt < r7.toInt := (fa_lt _ _).mp c8; have lbc8_0 := i_lo b3; have ubc8_0 := i_hi b3
            refine lv_iconst (v := 0) hx hb dX6_list_53 (by decide) ?_
            refine lv_istore (lv' := [(6, .int 0), (0, .ref a0), (1, .ref a1), (2, .int b2), (3, .int b3), (4, .int x2), (5, .int x1)]) hx hb dX6_list_54 hl (by decide) rfl (fun ls hl => ?_)
            refine lv_iload hx hb dX6_list_56 (lv_at hl 0 rfl) ?_
            refine lv_if_eq (tgt := 80) hx hb dX6_list_58 (by decide) (fun _ => ?_) (fun c_ => absurd (by decide +kernel) c_)
            obtain ⟨z9, ez9⟩ : ∃ q : Int32, q = x1 + Int32.ofInt 1 := ⟨_, rfl⟩
            have tz9 : z9.toInt = x1.toInt + 1 := by rw [ez9]; exact add_i (y := 1) (by have p_ := i_lo x1; show _ ≤ _ + (1 : Int); omega) (by have q_ := i_hi x1; show _ + (1 : Int) ≤ _; omega)
            refine lv_iinc (v := z9) (lv' := [(5, .int z9), (6, .int 0), (0, .ref a0), (1, .ref a1), (2, .int b2), (3, .int b3), (4, .int x2)]) hx hb dX6_list_80 hl (k := 6) rfl ez9.symm (by decide) rfl (fun ls hl => ?_)
            refine lv_goto (tgt := 6) hx hb dX6_list_83 (by decide) ?_
            exact ih  z9 x2 f3 H locs ls (by omega) (by omega) hT_f3 (hP.subm [0, 1, 2, 3] rfl) (hD.sub [0, 1, 2, 3] (by decide +kernel) rfl) hS (lv_sub hl [2, 3, 4, 5, 6, 0] rfl)
          · have dc8 : r7.toInt ≤ b3.toInt := fa_nlt c8; have lbc8_0 := i_lo b3; have ubc8_0 := i_hi b3
            refine lv_aload_n hx hb dX6_list_35 rfl (lv_at hl 0 rfl) ?_
            refine k_get hC hK hP iX6 1 1 wf_X6_15 rfl (by decide) rfl rfl dX6_list_36 ?_
            refine lv_iload hx hb dX6_list_39 (lv_at hl 5 rfl) ?_
            refine t_iald hC hK hP 3 rfl (by omega) (by omega) hT_g_tr_right dX6_list_41 (fun z10 tz10 => ?_)
            refine k_ci (wr := [(a1, .inl (cI, 729, .inl f3)), (a0, .inr (6, [.ref a2, .ref a3, .ref a1, .int v_tr_3, .ref a4, .ref a5, .int v_tr_6, .int v_tr_7, .int v_tr_8, .ref a6, .int v_tr_10, .ref a7, .ref a8, .ref a9, .ref a10, .int v_tr_15, .int v_tr_16, .int v_tr_17, .int v_tr_18, .int v_tr_19])), (a2, .inl (cI, 729, .inl g_tr_left)), (a3, .inl (cI, 729, .inl g_tr_right))]) (k_rS hC hN hZ hS hA hK hP hD (c90_J6_bitCount_0f7a4 l G cI cJ cB cZ z10) [] rfl (by decide +kernel) mi_J6_bitCount_0f7a4 st_J6_bitCount_0f7a4 wm_X6_115 hl.1 rfl rfl (Nat.le_of_ble_eq_true rfl) ⟨(Nat.le_of_ble_eq_true rfl), (Nat.le_of_ble_eq_true rfl)⟩ dX6_list_42 ⟨(Nat.le_of_ble_eq_true rfl), (Nat.le_of_ble_eq_true rfl)⟩) hP hD hS hA [] [0, 1, 2, 3] rfl rfl (by decide +kernel) (by decide +kernel) (fun r11 u11 H locs hp hP hD hS => ?_)
            have hp : (0 ≤ r11.toInt ∧ r11.toInt ≤ 63) := hp
            have hP : va_P G cl [(a1, .inl (cI, 729, .inl f3)), (a0, .inr (6, [.ref a2, .ref a3, .ref a1, .int v_tr_3, .ref a4, .ref a5, .int v_tr_6, .int v_tr_7, .int v_tr_8, .ref a6, .int v_tr_10, .ref a7, .ref a8, .ref a9, .ref a10, .int v_tr_15, .int v_tr_16, .int v_tr_17, .int v_tr_18, .int v_tr_19])), (a2, .inl (cI, 729, .inl g_tr_left)), (a3, .inl (cI, 729, .inl g_tr_right))] H := hP
            have hD : va_D A [(a1, .inl (cI, 729, .inl f3)), (a0, .inr (6, [.ref a2, .ref a3, .ref a1, .int v_tr_3, .ref a4, .ref a5, .int v_tr_6, .int v_tr_7, .int v_tr_8, .ref a6, .int v_tr_10, .ref a7, .ref a8, .ref a9, .ref a10, .int v_tr_15, .int v_tr_16, .int v_tr_17, .int v_tr_18, .int v_tr_19])), (a2, .inl (cI, 729, .inl g_tr_left)), (a3, .inl (cI, 729, .inl g_tr_right))] := hD
            have hq11 := hp
            refine lv_iload_n hx hb dX6_list_45 rfl (lv_at hl 3 rfl) ?_
            refine lv_icmp_gt (tgt := 53) hx hb dX6_list_46 (by decide) (fun c12 => ?_) (fun c12 => ?_)
            · have dc12 : b3.toInt < r11.toInt := (fa_lt _ _).mp c12; have ubc12_0 := i_hi b3
              refine lv_iconst (v := 0) hx hb dX6_list_53 (by decide) ?_
              refine lv_istore (lv' := [(6, .int 0), (0, .ref a0), (1, .ref a1), (2, .int b2), (3, .int b3), (4, .int x2), (5, .int x1)]) hx hb dX6_list_54 hl (by decide) rfl (fun ls hl => ?_)
              refine lv_iload hx hb dX6_list_56 (lv_at hl 0 rfl) ?_
              refine lv_if_eq (tgt := 80) hx hb dX6_list_58 (by decide) (fun _ => ?_) (fun c_ => absurd (by decide +kernel) c_)
              obtain ⟨z13, ez13⟩ : ∃ q : Int32, q = x1 + Int32.ofInt 1 := ⟨_, rfl⟩
              have tz13 : z13.toInt = x1.toInt + 1 := by rw [ez13]; exact add_i (y := 1) (by have p_ := i_lo x1; show _ ≤ _ + (1 : Int); omega) (by have q_ := i_hi x1; show _ + (1 : Int) ≤ _; omega)
              refine lv_iinc (v := z13) (lv' := [(5, .int z13), (6, .int 0), (0, .ref a0), (1, .ref a1), (2, .int b2), (3, .int b3), (4, .int x2)]) hx hb dX6_list_80 hl (k := 6) rfl ez13.symm (by decide) rfl (fun ls hl => ?_)
              refine lv_goto (tgt := 6) hx hb dX6_list_83 (by decide) ?_
              exact ih  z13 x2 f3 H locs ls (by omega) (by omega) hT_f3 (hP.subm [0, 1, 2, 3] rfl) (hD.sub [0, 1, 2, 3] (by decide +kernel) rfl) hS (lv_sub hl [2, 3, 4, 5, 6, 0] rfl)
            · have dc12 : r11.toInt ≤ b3.toInt := fa_nlt c12; have ubc12_0 := i_hi b3
              refine lv_iconst (v := 1) hx hb dX6_list_49 (by decide) ?_
              refine lv_goto (tgt := 54) hx hb dX6_list_50 (by decide) ?_
              refine lv_istore (lv' := [(6, .int 1), (0, .ref a0), (1, .ref a1), (2, .int b2), (3, .int b3), (4, .int x2), (5, .int x1)]) hx hb dX6_list_54 hl (by decide) rfl (fun ls hl => ?_)
              refine lv_iload hx hb dX6_list_56 (lv_at hl 0 rfl) ?_
              refine lv_if_eq (tgt := 80) hx hb dX6_list_58 (by decide) (fun c_ => absurd c_ (by decide +kernel)) (fun _ => ?_)
              refine lv_aload_n hx hb dX6_list_61 rfl (lv_at hl 1 rfl) ?_
              refine lv_iload hx hb dX6_list_62 (lv_at hl 6 rfl) ?_
              refine lv_iload_n hx hb dX6_list_64 rfl (lv_at hl 3 rfl) ?_
              refine k_ci (wr := [(a1, .inl (cI, 729, .inl f3))]) (k_rV hC hN hZ hS hA hK hP hD (c101_X6_canBe l G cI cJ cB cZ a0 a2 a3 a1 a4 a5 a6 a7 a8 a9 a10 x1 b2 v_tr_3 v_tr_6 v_tr_7 v_tr_8 v_tr_10 v_tr_15 v_tr_16 v_tr_17 v_tr_18 v_tr_19 g_tr_left g_tr_right hv_0 hv_1 hv_2 hv_3 hv_4 hv_5 hT_g_tr_left hT_g_tr_right) [1, 2, 3] rfl (by decide +kernel) mi_X6_canBe in_X6_canBe se_X6_canBe wm_X6_120 6 1 rfl rfl rfl hl.1 rfl rfl (Nat.le_of_ble_eq_true rfl) ⟨(Nat.le_of_ble_eq_true rfl), (Nat.le_of_ble_eq_true rfl)⟩ dX6_list_65 ⟨(Nat.le_of_ble_eq_true rfl), (Nat.le_of_ble_eq_true rfl)⟩) hP hD hS hA [1, 2, 3] [0] rfl rfl (by decide +kernel) (by decide +kernel) (fun r14 u14 H locs hp hP hD hS => ?_)
              have hp : (0 ≤ r14.toInt ∧ r14.toInt ≤ 1) := hp
              have hP : va_P G cl [(a1, .inl (cI, 729, .inl f3)), (a0, .inr (6, [.ref a2, .ref a3, .ref a1, .int v_tr_3, .ref a4, .ref a5, .int v_tr_6, .int v_tr_7, .int v_tr_8, .ref a6, .int v_tr_10, .ref a7, .ref a8, .ref a9, .ref a10, .int v_tr_15, .int v_tr_16, .int v_tr_17, .int v_tr_18, .int v_tr_19])), (a2, .inl (cI, 729, .inl g_tr_left)), (a3, .inl (cI, 729, .inl g_tr_right))] H := hP
              have hD : va_D A [(a1, .inl (cI, 729, .inl f3)), (a0, .inr (6, [.ref a2, .ref a3, .ref a1, .int v_tr_3, .ref a4, .ref a5, .int v_tr_6, .int v_tr_7, .int v_tr_8, .ref a6, .int v_tr_10, .ref a7, .ref a8, .ref a9, .ref a10, .int v_tr_15, .int v_tr_16, .int v_tr_17, .int v_tr_18, .int v_tr_19])), (a2, .inl (cI, 729, .inl g_tr_left)), (a3, .inl (cI, 729, .inl g_tr_right))] := hD
              have hq14 := hp
              refine lv_if_eq (tgt := 80) hx hb dX6_list_68 (by decide) (fun c15 => ?_) (fun c15 => ?_)
              · have dc15 : r14.toInt = 0 := (fa_eq _ _).mp c15
                obtain ⟨z16, ez16⟩ : ∃ q : Int32, q = x1 + Int32.ofInt 1 := ⟨_, rfl⟩
                have tz16 : z16.toInt = x1.toInt + 1 := by rw [ez16]; exact add_i (y := 1) (by have p_ := i_lo x1; show _ ≤ _ + (1 : Int); omega) (by have q_ := i_hi x1; show _ + (1 : Int) ≤ _; omega)
                refine lv_iinc (v := z16) (lv' := [(5, .int z16), (6, .int 1), (0, .ref a0), (1, .ref a1), (2, .int b2), (3, .int b3), (4, .int x2)]) hx hb dX6_list_80 hl (k := 6) rfl ez16.symm (by decide) rfl (fun ls hl => ?_)
                refine lv_goto (tgt := 6) hx hb dX6_list_83 (by decide) ?_
                exact ih  z16 x2 f3 H locs ls (by omega) (by omega) hT_f3 (hP.subm [0, 1, 2, 3] rfl) (hD.sub [0, 1, 2, 3] (by decide +kernel) rfl) hS (lv_sub hl [2, 3, 4, 5, 6, 0] rfl)
              · have dc15 : r14.toInt ≠ 0 := fa_ne c15
                refine lv_aload_n hx hb dX6_list_71 rfl (lv_at hl 2 rfl) ?_
                refine lv_iload hx hb dX6_list_72 (lv_at hl 5 rfl) ?_
                refine lv_iload hx hb dX6_list_74 (lv_at hl 6 rfl) ?_
                refine t_iast hC hK hP hD hS 0 rfl (by omega) (by omega) hT_f3 (by omega) dX6_list_76 (fun f17 H locs hT_f17 hP hD hS => ?_)
                have hP : va_P G cl [(a1, .inl (cI, 729, .inl f17)), (a0, .inr (6, [.ref a2, .ref a3, .ref a1, .int v_tr_3, .ref a4, .ref a5, .int v_tr_6, .int v_tr_7, .int v_tr_8, .ref a6, .int v_tr_10, .ref a7, .ref a8, .ref a9, .ref a10, .int v_tr_15, .int v_tr_16, .int v_tr_17, .int v_tr_18, .int v_tr_19])), (a2, .inl (cI, 729, .inl g_tr_left)), (a3, .inl (cI, 729, .inl g_tr_right))] H := hP
                have hD : va_D A [(a1, .inl (cI, 729, .inl f17)), (a0, .inr (6, [.ref a2, .ref a3, .ref a1, .int v_tr_3, .ref a4, .ref a5, .int v_tr_6, .int v_tr_7, .int v_tr_8, .ref a6, .int v_tr_10, .ref a7, .ref a8, .ref a9, .ref a10, .int v_tr_15, .int v_tr_16, .int v_tr_17, .int v_tr_18, .int v_tr_19])), (a2, .inl (cI, 729, .inl g_tr_left)), (a3, .inl (cI, 729, .inl g_tr_right))] := hD
                obtain ⟨z18, ez18⟩ : ∃ q : Int32, q = x2 + Int32.ofInt 1 := ⟨_, rfl⟩
                have tz18 : z18.toInt = x2.toInt + 1 := by rw [ez18]; exact add_i (y := 1) (by have p_ := i_lo x2; show _ ≤ _ + (1 : Int); omega) (by have q_ := i_hi x2; show _ + (1 : Int) ≤ _; omega)
                refine lv_iinc (v := z18) (lv' := [(4, .int z18), (6, .int 1), (0, .ref a0), (1, .ref a1), (2, .int b2), (3, .int b3), (5, .int x1)]) hx hb dX6_list_77 hl (k := 5) rfl ez18.symm (by decide) rfl (fun ls hl => ?_)
                obtain ⟨z19, ez19⟩ : ∃ q : Int32, q = x1 + Int32.ofInt 1 := ⟨_, rfl⟩
                have tz19 : z19.toInt = x1.toInt + 1 := by rw [ez19]; exact add_i (y := 1) (by have p_ := i_lo x1; show _ ≤ _ + (1 : Int); omega) (by have q_ := i_hi x1; show _ + (1 : Int) ≤ _; omega)
                refine lv_iinc (v := z19) (lv' := [(5, .int z19), (4, .int z18), (6, .int 1), (0, .ref a0), (1, .ref a1), (2, .int b2), (3, .int b3)]) hx hb dX6_list_80 hl (k := 6) rfl ez19.symm (by decide) rfl (fun ls hl => ?_)
                refine lv_goto (tgt := 6) hx hb dX6_list_83 (by decide) ?_
                exact ih  z19 z18 f17 H locs ls (by omega) (by omega) hT_f17 (hP.subm [0, 1, 2, 3] rfl) (hD.sub [0, 1, 2, 3] (by decide +kernel) rfl) hS (lv_sub hl [3, 4, 5, 6, 1, 0] rfl)
  have l_l20 : (0 : Int32).toInt = 0 := rfl
  exact L_6 730 0 0 g_tr_codes H locs ls (by omega) (by omega) hT_g_tr_codes (hP.subm [0, 1, 2, 3] rfl) (hD.sub [0, 1, 2, 3] (by decide +kernel) rfl) hS (lv_sub hl [2, 3, 4, 5, 1, 0] rfl)
theorem dX6_greatestPart_0 : decode cX6_greatestPart 0 = .ok (.iload_n 1, 1) := by decide +kernel
theorem dX6_greatestPart_1 : decode cX6_greatestPart 1 = .ok (.iconst 3, 1) := by decide +kernel
theorem dX6_greatestPart_2 : decode cX6_greatestPart 2 = .ok (.imul, 1) := by decide +kernel
theorem dX6_greatestPart_3 : decode cX6_greatestPart 3 = .ok (.istore_n 2, 1) := by decide +kernel
theorem dX6_greatestPart_4 : decode cX6_greatestPart 4 = .ok (.aload_n 0, 1) := by decide +kernel
theorem dX6_greatestPart_5 : decode cX6_greatestPart 5 = .ok (.getfield 25, 3) := by decide +kernel
set_option maxRecDepth 100000 in
theorem wf_X6_25 : Cond.fieldLink RX6 25 "StoneTrust$Trials" "shown" "[I" ∈ gw := gm (List.mem_of_getElem? (i := 456) (by decide +kernel)) rfl
theorem dX6_greatestPart_8 : decode cX6_greatestPart 8 = .ok (.iload_n 2, 1) := by decide +kernel
theorem dX6_greatestPart_9 : decode cX6_greatestPart 9 = .ok (.iconst 0, 1) := by decide +kernel
theorem dX6_greatestPart_10 : decode cX6_greatestPart 10 = .ok (.iadd, 1) := by decide +kernel
theorem dX6_greatestPart_11 : decode cX6_greatestPart 11 = .ok (.iaload, 1) := by decide +kernel
theorem dX6_greatestPart_12 : decode cX6_greatestPart 12 = .ok (.aload_n 0, 1) := by decide +kernel
theorem dX6_greatestPart_13 : decode cX6_greatestPart 13 = .ok (.getfield 25, 3) := by decide +kernel
theorem dX6_greatestPart_16 : decode cX6_greatestPart 16 = .ok (.iload_n 2, 1) := by decide +kernel
theorem dX6_greatestPart_17 : decode cX6_greatestPart 17 = .ok (.iconst 1, 1) := by decide +kernel
theorem dX6_greatestPart_18 : decode cX6_greatestPart 18 = .ok (.iadd, 1) := by decide +kernel
theorem dX6_greatestPart_19 : decode cX6_greatestPart 19 = .ok (.iaload, 1) := by decide +kernel
theorem dX6_greatestPart_20 : decode cX6_greatestPart 20 = .ok (.aload_n 0, 1) := by decide +kernel
theorem dX6_greatestPart_21 : decode cX6_greatestPart 21 = .ok (.getfield 25, 3) := by decide +kernel
theorem dX6_greatestPart_24 : decode cX6_greatestPart 24 = .ok (.iload_n 2, 1) := by decide +kernel
theorem dX6_greatestPart_25 : decode cX6_greatestPart 25 = .ok (.iconst 2, 1) := by decide +kernel
theorem dX6_greatestPart_26 : decode cX6_greatestPart 26 = .ok (.iadd, 1) := by decide +kernel
theorem dX6_greatestPart_27 : decode cX6_greatestPart 27 = .ok (.iaload, 1) := by decide +kernel
theorem dX6_greatestPart_28 : decode cX6_greatestPart 28 = .ok (.invokestatic 124, 3) := by decide +kernel
set_option maxRecDepth 100000 in
theorem wm_X6_124 : Cond.methodLink RX6 124 Lib.Math.max.name ∈ gw := gm (List.mem_of_getElem? (i := 1070) (by decide +kernel)) rfl
theorem dX6_greatestPart_31 : decode cX6_greatestPart 31 = .ok (.invokestatic 124, 3) := by decide +kernel
theorem dX6_greatestPart_34 : decode cX6_greatestPart 34 = .ok (.ireturn, 1) := by decide +kernel
set_option maxHeartbeats 4000000 in
set_option maxRecDepth 100000 in
theorem c103_X6_greatestPart (l : Launch) (G : va_G) (cI cJ cB cZ : ClassId) (a0 a1 a2 a3 a4 a5 a6 a7 a8 a9 a10 : Nat) (b1 : Int32) (v_tr_3 : Int32) (v_tr_6 : Int32) (v_tr_7 : Int32) (v_tr_8 : Int32) (v_tr_10 : Int32) (v_tr_15 : Int32) (v_tr_16 : Int32) (v_tr_17 : Int32) (v_tr_18 : Int32) (v_tr_19 : Int32) (g_tr_shown : Nat → Int32) (hv_0 : 0 ≤ b1.toInt) (hv_1 : b1.toInt ≤ 728) (hv_2 : 0 ≤ v_tr_3.toInt) (hv_3 : v_tr_3.toInt ≤ 729) (hv_4 : 0 ≤ v_tr_10.toInt) (hv_5 : v_tr_10.toInt ≤ 240) (hv_6 : 0 ≤ v_tr_15.toInt) (hv_7 : v_tr_15.toInt ≤ 3) : Con l G (TY cI cJ cB cZ) yX6_greatestPart cX6_greatestPart 3 (some .int) ({ frames := 1, cells := 0, slots := 0, locals := 21 } : Room) [.ref a0, .int b1] [(a0, .inr (6, [.ref a1, .ref a2, .ref a3, .int v_tr_3, .ref a4, .ref a5, .int v_tr_6, .int v_tr_7, .int v_tr_8, .ref a6, .int v_tr_10, .ref a7, .ref a8, .ref a9, .ref a10, .int v_tr_15, .int v_tr_16, .int v_tr_17, .int v_tr_18, .int v_tr_19])), (a4, .inl (cI, 2187, .inl g_tr_shown))] (QI G (TY cI cJ cB cZ) (fun (r : Int32) (u : Unit) => (True)) (fun u : Unit => [(a0, .inr (6, [.ref a1, .ref a2, .ref a3, .int v_tr_3, .ref a4, .ref a5, .int v_tr_6, .int v_tr_7, .int v_tr_8, .ref a6, .int v_tr_10, .ref a7, .ref a8, .ref a9, .ref a10, .int v_tr_15, .int v_tr_16, .int v_tr_17, .int v_tr_18, .int v_tr_19])), (a4, .inl (cI, 2187, .inl g_tr_shown))])) := by
  refine k_met (by decide) (Nat.le_of_ble_eq_true rfl) ?_
  intro p e s m below meth c A ls hC hr hlk hnm hN hZ hK hA hP hD hS hl
  have hl : lv_has ls 3 [(0, .ref a0), (1, .int b1)] := hl
  generalize hQm : MQ below _ _ s _ _ A = Qm
  generalize (List.toArray _ : Array Value) = args at hC hQm ⊢
  obtain ⟨hx, hb, hml, hown, hts⟩ := id hC
  obtain ⟨H, hH⟩ : ∃ q, q = s.heap := ⟨_, rfl⟩
  obtain ⟨locs, hlo⟩ : ∃ q : List Loc, q = [] := ⟨_, rfl⟩
  have hP : va_P G cl [(a0, .inr (6, [.ref a1, .ref a2, .ref a3, .int v_tr_3, .ref a4, .ref a5, .int v_tr_6, .int v_tr_7, .int v_tr_8, .ref a6, .int v_tr_10, .ref a7, .ref a8, .ref a9, .ref a10, .int v_tr_15, .int v_tr_16, .int v_tr_17, .int v_tr_18, .int v_tr_19])), (a4, .inl (cI, 2187, .inl g_tr_shown))] H := by rw [hH]; exact hP
  have hS : va_S A s.heap H locs := by rw [hH, hlo]; exact hS
  rw [← hlo]
  rw [← hH]
  refine lv_iload_n hx hb dX6_greatestPart_0 rfl (lv_at hl 1 rfl) ?_
  refine lv_iconst (v := 3) hx hb dX6_greatestPart_1 (by decide) ?_
  refine lv_imul hx hb dX6_greatestPart_2 ?_
  refine t_i (fun q => q.toInt = b1.toInt * 3) (mul_i (by show (-2147483648 : Int) ≤ b1.toInt * 3; omega) (by show b1.toInt * 3 ≤ (2147483647 : Int); omega)) (fun z1 tz1 => ?_)
  refine lv_istore_n (lv' := [(2, .int z1), (0, .ref a0), (1, .int b1)]) hx hb dX6_greatestPart_3 rfl hl (by decide) rfl (fun ls hl => ?_)
  refine lv_aload_n hx hb dX6_greatestPart_4 rfl (lv_at hl 1 rfl) ?_
  refine k_get hC hK hP iX6 0 4 wf_X6_25 rfl (by decide) rfl rfl dX6_greatestPart_5 ?_
  refine lv_iload_n hx hb dX6_greatestPart_8 rfl (lv_at hl 0 rfl) ?_
  refine lv_iconst (v := 0) hx hb dX6_greatestPart_9 (by decide) ?_
  refine lv_iadd hx hb dX6_greatestPart_10 ?_
  refine t_i (fun q => q.toInt = z1.toInt + 0) (add_i (by show (-2147483648 : Int) ≤ z1.toInt + 0; omega) (by show z1.toInt + 0 ≤ (2147483647 : Int); omega)) (fun z2 tz2 => ?_)
  refine t_iald hC hK hP 1 rfl (by omega) (by omega) (TA.all _) dX6_greatestPart_11 (fun z3 tz3 => ?_)
  refine lv_aload_n hx hb dX6_greatestPart_12 rfl (lv_at hl 1 rfl) ?_
  refine k_get hC hK hP iX6 0 4 wf_X6_25 rfl (by decide) rfl rfl dX6_greatestPart_13 ?_
  refine lv_iload_n hx hb dX6_greatestPart_16 rfl (lv_at hl 0 rfl) ?_
  refine lv_iconst (v := 1) hx hb dX6_greatestPart_17 (by decide) ?_
  refine lv_iadd hx hb dX6_greatestPart_18 ?_
  refine t_i (fun q => q.toInt = z1.toInt + 1) (add_i (by show (-2147483648 : Int) ≤ z1.toInt + 1; omega) (by show z1.toInt + 1 ≤ (2147483647 : Int); omega)) (fun z4 tz4 => ?_)
  refine t_iald hC hK hP 1 rfl (by omega) (by omega) (TA.all _) dX6_greatestPart_19 (fun z5 tz5 => ?_)
  refine lv_aload_n hx hb dX6_greatestPart_20 rfl (lv_at hl 1 rfl) ?_
  refine k_get hC hK hP iX6 0 4 wf_X6_25 rfl (by decide) rfl rfl dX6_greatestPart_21 ?_
  refine lv_iload_n hx hb dX6_greatestPart_24 rfl (lv_at hl 0 rfl) ?_
  refine lv_iconst (v := 2) hx hb dX6_greatestPart_25 (by decide) ?_
  refine lv_iadd hx hb dX6_greatestPart_26 ?_
  refine t_i (fun q => q.toInt = z1.toInt + 2) (add_i (by show (-2147483648 : Int) ≤ z1.toInt + 2; omega) (by show z1.toInt + 2 ≤ (2147483647 : Int); omega)) (fun z6 tz6 => ?_)
  refine t_iald hC hK hP 1 rfl (by omega) (by omega) (TA.all _) dX6_greatestPart_27 (fun z7 tz7 => ?_)
  refine va_mmax hx hb (hml.trans hl.1.symm) hown (hts _ wm_X6_124) (hts _ st_Mmax) (hts _ ini_Math) (hts _ co_Mmax) (Nat.le_of_ble_eq_true rfl) (Nat.le_of_ble_eq_true rfl) (Nat.le_of_ble_eq_true rfl) (Nat.le_of_ble_eq_true rfl) dX6_greatestPart_28 ?_
  refine t_i (fun q => z5.toInt ≤ q.toInt ∧ z7.toInt ≤ q.toInt ∧ (q.toInt = z5.toInt ∨ q.toInt = z7.toInt)) (max_b z5 z7) (fun z8 tz8 => ?_)
  refine va_mmax hx hb (hml.trans hl.1.symm) hown (hts _ wm_X6_124) (hts _ st_Mmax) (hts _ ini_Math) (hts _ co_Mmax) (Nat.le_of_ble_eq_true rfl) (Nat.le_of_ble_eq_true rfl) (Nat.le_of_ble_eq_true rfl) (Nat.le_of_ble_eq_true rfl) dX6_greatestPart_31 ?_
  refine t_i (fun q => z3.toInt ≤ q.toInt ∧ z8.toInt ≤ q.toInt ∧ (q.toInt = z3.toInt ∨ q.toInt = z8.toInt)) (max_b z3 z8) (fun z9 tz9 => ?_)
  rw [← hQm]
  exact k_iret hC hr hlk hK hP hD hS () [0, 1] rfl (by decide +kernel) trivial (Nat.le_of_ble_eq_true rfl) (Nat.le_of_ble_eq_true rfl) dX6_greatestPart_34
theorem dX6_addUp_0 : decode cX6_addUp 0 = .ok (.aload_n 0, 1) := by decide +kernel
theorem dX6_addUp_1 : decode cX6_addUp 1 = .ok (.getfield 28, 3) := by decide +kernel
set_option maxRecDepth 100000 in
theorem wf_X6_28 : Cond.fieldLink RX6 28 "StoneTrust$Trials" "grains" "[I" ∈ gw := gm (List.mem_of_getElem? (i := 457) (by decide +kernel)) rfl
theorem dX6_addUp_4 : decode cX6_addUp 4 = .ok (.iconst 0, 1) := by decide +kernel
theorem dX6_addUp_5 : decode cX6_addUp 5 = .ok (.iconst 0, 1) := by decide +kernel
theorem dX6_addUp_6 : decode cX6_addUp 6 = .ok (.iastore, 1) := by decide +kernel
theorem dX6_addUp_7 : decode cX6_addUp 7 = .ok (.iconst 0, 1) := by decide +kernel
theorem dX6_addUp_8 : decode cX6_addUp 8 = .ok (.istore 4, 2) := by decide +kernel
theorem dX6_addUp_10 : decode cX6_addUp 10 = .ok (.iload 4, 2) := by decide +kernel
theorem dX6_addUp_12 : decode cX6_addUp 12 = .ok (.aload_n 1, 1) := by decide +kernel
theorem dX6_addUp_13 : decode cX6_addUp 13 = .ok (.getfield 86, 3) := by decide +kernel
set_option maxRecDepth 100000 in
theorem wf_X6_86 : Cond.fieldLinkNest RX6 86 "StoneTrust$Village" "stones" "I" "StoneTrust" ∈ nests := nm_ (List.mem_of_getElem? (i := 239) (by decide +kernel)) rfl
theorem dX6_addUp_16 : decode cX6_addUp 16 = .ok (.if_icmp .ge 64, 3) := by decide +kernel
theorem dX6_addUp_80 : decode cX6_addUp 80 = .ok (.return_, 1) := by decide +kernel
theorem dX6_addUp_19 : decode cX6_addUp 19 = .ok (.iload 4, 2) := by decide +kernel
theorem dX6_addUp_21 : decode cX6_addUp 21 = .ok (.bipush 6, 2) := by decide +kernel
theorem dX6_addUp_23 : decode cX6_addUp 23 = .ok (.if_icmp .ge 57, 3) := by decide +kernel
theorem dX6_addUp_26 : decode cX6_addUp 26 = .ok (.lload_n 2, 1) := by decide +kernel
theorem dX6_addUp_27 : decode cX6_addUp 27 = .ok (.iload 4, 2) := by decide +kernel
theorem dX6_addUp_29 : decode cX6_addUp 29 = .ok (.invokestatic 140, 3) := by decide +kernel
set_option maxRecDepth 100000 in
theorem wm_X6_140 : Cond.methodLink RX6 140 yX0_weightOf ∈ gw := gm (List.mem_of_getElem? (i := 1064) (by decide +kernel)) rfl
theorem dX6_addUp_32 : decode cX6_addUp 32 = .ok (.istore 5, 2) := by decide +kernel
theorem dX6_addUp_34 : decode cX6_addUp 34 = .ok (.iconst 0, 1) := by decide +kernel
theorem dX6_addUp_35 : decode cX6_addUp 35 = .ok (.istore 6, 2) := by decide +kernel
theorem dX6_addUp_37 : decode cX6_addUp 37 = .ok (.iload 6, 2) := by decide +kernel
theorem dX6_addUp_39 : decode cX6_addUp 39 = .ok (.iconst 1, 1) := by decide +kernel
theorem dX6_addUp_40 : decode cX6_addUp 40 = .ok (.iload 4, 2) := by decide +kernel
theorem dX6_addUp_42 : decode cX6_addUp 42 = .ok (.ishl, 1) := by decide +kernel
theorem dX6_addUp_43 : decode cX6_addUp 43 = .ok (.if_icmp .ge 31, 3) := by decide +kernel
theorem dX6_addUp_74 : decode cX6_addUp 74 = .ok (.iinc 4 1, 3) := by decide +kernel
theorem dX6_addUp_77 : decode cX6_addUp 77 = .ok (.goto (-67), 3) := by decide +kernel
theorem dX6_addUp_46 : decode cX6_addUp 46 = .ok (.aload_n 0, 1) := by decide +kernel
theorem dX6_addUp_47 : decode cX6_addUp 47 = .ok (.getfield 28, 3) := by decide +kernel
theorem dX6_addUp_50 : decode cX6_addUp 50 = .ok (.iload 6, 2) := by decide +kernel
theorem dX6_addUp_52 : decode cX6_addUp 52 = .ok (.iconst 1, 1) := by decide +kernel
theorem dX6_addUp_53 : decode cX6_addUp 53 = .ok (.iload 4, 2) := by decide +kernel
theorem dX6_addUp_55 : decode cX6_addUp 55 = .ok (.ishl, 1) := by decide +kernel
theorem dX6_addUp_56 : decode cX6_addUp 56 = .ok (.iadd, 1) := by decide +kernel
theorem dX6_addUp_57 : decode cX6_addUp 57 = .ok (.aload_n 0, 1) := by decide +kernel
theorem dX6_addUp_58 : decode cX6_addUp 58 = .ok (.getfield 28, 3) := by decide +kernel
theorem dX6_addUp_61 : decode cX6_addUp 61 = .ok (.iload 6, 2) := by decide +kernel
theorem dX6_addUp_63 : decode cX6_addUp 63 = .ok (.iaload, 1) := by decide +kernel
theorem dX6_addUp_64 : decode cX6_addUp 64 = .ok (.iload 5, 2) := by decide +kernel
theorem dX6_addUp_66 : decode cX6_addUp 66 = .ok (.iadd, 1) := by decide +kernel
theorem dX6_addUp_67 : decode cX6_addUp 67 = .ok (.iastore, 1) := by decide +kernel
theorem dX6_addUp_68 : decode cX6_addUp 68 = .ok (.iinc 6 1, 3) := by decide +kernel
theorem dX6_addUp_71 : decode cX6_addUp 71 = .ok (.goto (-34), 3) := by decide +kernel
set_option maxHeartbeats 4000000 in
set_option maxRecDepth 100000 in
theorem c104_X6_addUp (l : Launch) (G : va_G) (cI cJ cB cZ : ClassId) (a0 a1 a2 a3 a4 a5 a6 a7 a8 a9 a10 a11 a12 a13 a14 a15 a16 a17 a18 a19 a20 a21 a22 : Nat) (b2 : Int64) (v_tr_3 : Int32) (v_tr_6 : Int32) (v_tr_7 : Int32) (v_tr_8 : Int32) (v_tr_10 : Int32) (v_tr_15 : Int32) (v_tr_16 : Int32) (v_tr_17 : Int32) (v_tr_18 : Int32) (v_tr_19 : Int32) (v_V_0 : Int32) (v_V_1 : Int32) (v_V_2 : Int32) (v_V_5 : Int32) (g_tr_grains : Nat → Int32) (hv_0 : 0 ≤ v_tr_3.toInt) (hv_1 : v_tr_3.toInt ≤ 729) (hv_2 : 0 ≤ v_tr_10.toInt) (hv_3 : v_tr_10.toInt ≤ 240) (hv_4 : 0 ≤ v_tr_15.toInt) (hv_5 : v_tr_15.toInt ≤ 3) (hv_6 : 0 ≤ v_V_0.toInt) (hv_7 : v_V_0.toInt ≤ 110) (hv_8 : 0 ≤ v_V_1.toInt) (hv_9 : v_V_1.toInt ≤ 110) (hv_10 : 0 ≤ v_V_5.toInt) (hv_11 : v_V_5.toInt ≤ 6) : Con l G (TY cI cJ cB cZ) yX6_addUp cX6_addUp 7 none ({ frames := 1, cells := 0, slots := 0, locals := 22 } : Room) [.ref a0, .ref a1, .long b2] [(a0, .inr (6, [.ref a2, .ref a3, .ref a4, .int v_tr_3, .ref a5, .ref a6, .int v_tr_6, .int v_tr_7, .int v_tr_8, .ref a7, .int v_tr_10, .ref a8, .ref a9, .ref a10, .ref a11, .int v_tr_15, .int v_tr_16, .int v_tr_17, .int v_tr_18, .int v_tr_19])), (a6, .inl (cI, 64, .inl g_tr_grains)), (a1, .inr (7, [.int v_V_0, .int v_V_1, .int v_V_2, .ref a12, .ref a13, .int v_V_5, .ref a14, .ref a15, .ref a16, .ref a17, .ref a18, .ref a19, .ref a20, .ref a21, .ref a22]))] (QV G (TY cI cJ cB cZ) (fun u : (Nat → Int32) => (True)) (fun u : (Nat → Int32) => [(a0, .inr (6, [.ref a2, .ref a3, .ref a4, .int v_tr_3, .ref a5, .ref a6, .int v_tr_6, .int v_tr_7, .int v_tr_8, .ref a7, .int v_tr_10, .ref a8, .ref a9, .ref a10, .ref a11, .int v_tr_15, .int v_tr_16, .int v_tr_17, .int v_tr_18, .int v_tr_19])), (a6, .inl (cI, 64, .inl u)), (a1, .inr (7, [.int v_V_0, .int v_V_1, .int v_V_2, .ref a12, .ref a13, .int v_V_5, .ref a14, .ref a15, .ref a16, .ref a17, .ref a18, .ref a19, .ref a20, .ref a21, .ref a22]))])) := by
  refine k_met (by decide) (Nat.le_of_ble_eq_true rfl) ?_
  intro p e s m below meth c A ls hC hr hlk hnm hN hZ hK hA hP hD hS hl
  have hl : lv_has ls 7 [(0, .ref a0), (1, .ref a1), (2, .long b2)] := hl
  generalize hQm : MQ below _ _ s _ _ A = Qm
  generalize (List.toArray _ : Array Value) = args at hC hQm ⊢
  obtain ⟨hx, hb, hml, hown, hts⟩ := id hC
  obtain ⟨H, hH⟩ : ∃ q, q = s.heap := ⟨_, rfl⟩
  obtain ⟨locs, hlo⟩ : ∃ q : List Loc, q = [] := ⟨_, rfl⟩
  have hP : va_P G cl [(a0, .inr (6, [.ref a2, .ref a3, .ref a4, .int v_tr_3, .ref a5, .ref a6, .int v_tr_6, .int v_tr_7, .int v_tr_8, .ref a7, .int v_tr_10, .ref a8, .ref a9, .ref a10, .ref a11, .int v_tr_15, .int v_tr_16, .int v_tr_17, .int v_tr_18, .int v_tr_19])), (a6, .inl (cI, 64, .inl g_tr_grains)), (a1, .inr (7, [.int v_V_0, .int v_V_1, .int v_V_2, .ref a12, .ref a13, .int v_V_5, .ref a14, .ref a15, .ref a16, .ref a17, .ref a18, .ref a19, .ref a20, .ref a21, .ref a22]))] H := by rw [hH]; exact hP
  have hS : va_S A s.heap H locs := by rw [hH, hlo]; exact hS
  rw [← hlo]
  rw [← hH]
  refine lv_aload_n hx hb dX6_addUp_0 rfl (lv_at hl 0 rfl) ?_
  refine k_get hC hK hP iX6 0 5 wf_X6_28 rfl (by decide) rfl rfl dX6_addUp_1 ?_
  refine lv_iconst (v := 0) hx hb dX6_addUp_4 (by decide) ?_
  refine lv_iconst (v := 0) hx hb dX6_addUp_5 (by decide) ?_
  refine t_iast hC hK hP hD hS 1 rfl (by decide) (by decide) (TA.all _) ⟨i_lo _, i_hi _⟩ dX6_addUp_6 (fun f1 H locs hT_f1 hP hD hS => ?_)
  have hP : va_P G cl [(a0, .inr (6, [.ref a2, .ref a3, .ref a4, .int v_tr_3, .ref a5, .ref a6, .int v_tr_6, .int v_tr_7, .int v_tr_8, .ref a7, .int v_tr_10, .ref a8, .ref a9, .ref a10, .ref a11, .int v_tr_15, .int v_tr_16, .int v_tr_17, .int v_tr_18, .int v_tr_19])), (a6, .inl (cI, 64, .inl f1)), (a1, .inr (7, [.int v_V_0, .int v_V_1, .int v_V_2, .ref a12, .ref a13, .int v_V_5, .ref a14, .ref a15, .ref a16, .ref a17, .ref a18, .ref a19, .ref a20, .ref a21, .ref a22]))] H := hP
  have hD : va_D A [(a0, .inr (6, [.ref a2, .ref a3, .ref a4, .int v_tr_3, .ref a5, .ref a6, .int v_tr_6, .int v_tr_7, .int v_tr_8, .ref a7, .int v_tr_10, .ref a8, .ref a9, .ref a10, .ref a11, .int v_tr_15, .int v_tr_16, .int v_tr_17, .int v_tr_18, .int v_tr_19])), (a6, .inl (cI, 64, .inl f1)), (a1, .inr (7, [.int v_V_0, .int v_V_1, .int v_V_2, .ref a12, .ref a13, .int v_V_5, .ref a14, .ref a15, .ref a16, .ref a17, .ref a18, .ref a19, .ref a20, .ref a21, .ref a22]))] := hD
  refine lv_iconst (v := 0) hx hb dX6_addUp_7 (by decide) ?_
  refine lv_istore (lv' := [(4, .int 0), (0, .ref a0), (1, .ref a1), (2, .long b2)]) hx hb dX6_addUp_8 hl (by decide) rfl (fun ls hl => ?_)
  have L_10 : ∀ (n : Nat) (x2 : Int32) (f3 : Nat → Int32) (H : Heap) (locs : List Loc) (ls : Array Slot), (0 ≤ x2.toInt ∧ x2.toInt ≤ 6) → 6 - x2.toInt < (n : Int) → va_P G cl [(a0, .inr (6, [.ref a2, .ref a3, .ref a4, .int v_tr_3, .ref a5, .ref a6, .int v_tr_6, .int v_tr_7, .int v_tr_8, .ref a7, .int v_tr_10, .ref a8, .ref a9, .ref a10, .ref a11, .int v_tr_15, .int v_tr_16, .int v_tr_17, .int v_tr_18, .int v_tr_19])), (a6, .inl (cI, 64, .inl f3)), (a1, .inr (7, [.int v_V_0, .int v_V_1, .int v_V_2, .ref a12, .ref a13, .int v_V_5, .ref a14, .ref a15, .ref a16, .ref a17, .ref a18, .ref a19, .ref a20, .ref a21, .ref a22]))] H → va_D A [(a0, .inr (6, [.ref a2, .ref a3, .ref a4, .int v_tr_3, .ref a5, .ref a6, .int v_tr_6, .int v_tr_7, .int v_tr_8, .ref a7, .int v_tr_10, .ref a8, .ref a9, .ref a10, .ref a11, .int v_tr_15, .int v_tr_16, .int v_tr_17, .int v_tr_18, .int v_tr_19])), (a6, .inl (cI, 64, .inl f3)), (a1, .inr (7, [.int v_V_0, .int v_V_1, .int v_V_2, .ref a12, .ref a13, .int v_V_5, .ref a14, .ref a15, .ref a16, .ref a17, .ref a18, .ref a19, .ref a20, .ref a21, .ref a22]))] → va_S A s.heap H locs → lv_has ls 7 [(0, .ref a0), (1, .ref a1), (2, .long b2), (4, .int x2)] → W p l e ({ frames := 1, cells := 0, slots := 0, locals := 22 } : Room) s m args below meth c H locs 0 0 Qm (F0 m 10 ls []) := by
    intro n
    induction n with
    | zero => intro x2 f3 H locs ls hv hm; omega
    | succ n ih =>
      intro x2 f3 H locs ls hv hm hP hD hS hl
      refine lv_iload hx hb dX6_addUp_10 (lv_at hl 3 rfl) ?_
      refine lv_aload_n hx hb dX6_addUp_12 rfl (lv_at hl 1 rfl) ?_
      refine k_getN hC hN hK hP iX7 2 5 wf_X6_86 rfl (by decide) rfl rfl dX6_addUp_13 ?_
      refine lv_icmp_ge (tgt := 80) hx hb dX6_addUp_16 (by decide) (fun c4 => ?_) (fun c4 => ?_)
      · have dc4 : v_V_5.toInt ≤ x2.toInt := (fa_le _ _).mp c4
        rw [← hQm]
        exact k_vret hC hr hlk hK hP hD hS f3 [0, 1, 2] rfl (by decide +kernel) trivial (Nat.le_of_ble_eq_true rfl) (Nat.le_of_ble_eq_true rfl) dX6_addUp_80
      · have dc4 : x2.toInt < v_V_5.toInt := fa_nle c4
        refine lv_iload hx hb dX6_addUp_19 (lv_at hl 3 rfl) ?_
        refine lv_bipush (v := 6) hx hb dX6_addUp_21 (by decide) ?_
        refine lv_icmp_ge (tgt := 80) hx hb dX6_addUp_23 (by decide) (fun c5 => by have dc5 : 6 ≤ x2.toInt := (fa_le _ _).mp c5; omega) (fun c5 => ?_)
        have dc5 : x2.toInt < 6 := fa_nle c5
        refine lv_lload_n hx hb dX6_addUp_26 rfl (lv_at hl 2 rfl) ?_
        refine lv_iload hx hb dX6_addUp_27 (lv_at hl 3 rfl) ?_
        refine k_ci (wr := [(a0, .inr (6, [.ref a2, .ref a3, .ref a4, .int v_tr_3, .ref a5, .ref a6, .int v_tr_6, .int v_tr_7, .int v_tr_8, .ref a7, .int v_tr_10, .ref a8, .ref a9, .ref a10, .ref a11, .int v_tr_15, .int v_tr_16, .int v_tr_17, .int v_tr_18, .int v_tr_19])), (a6, .inl (cI, 64, .inl f3)), (a1, .inr (7, [.int v_V_0, .int v_V_1, .int v_V_2, .ref a12, .ref a13, .int v_V_5, .ref a14, .ref a15, .ref a16, .ref a17, .ref a18, .ref a19, .ref a20, .ref a21, .ref a22]))]) (k_rS hC hN hZ hS hA hK hP hD (c32_X0_weightOf l G cI cJ cB cZ b2 x2) [] rfl (by decide +kernel) mi_X0_weightOf st_X0_weightOf wm_X6_140 hl.1 rfl rfl (Nat.le_of_ble_eq_true rfl) ⟨(Nat.le_of_ble_eq_true rfl), (Nat.le_of_ble_eq_true rfl)⟩ dX6_addUp_29 ⟨(Nat.le_of_ble_eq_true rfl), (Nat.le_of_ble_eq_true rfl)⟩) hP hD hS hA [] [0, 1, 2] rfl rfl (by decide +kernel) (by decide +kernel) (fun r6 u6 H locs hp hP hD hS => ?_)
        have hp : (0 ≤ r6.toInt ∧ r6.toInt ≤ 511) := hp
        have hP : va_P G cl [(a0, .inr (6, [.ref a2, .ref a3, .ref a4, .int v_tr_3, .ref a5, .ref a6, .int v_tr_6, .int v_tr_7, .int v_tr_8, .ref a7, .int v_tr_10, .ref a8, .ref a9, .ref a10, .ref a11, .int v_tr_15, .int v_tr_16, .int v_tr_17, .int v_tr_18, .int v_tr_19])), (a6, .inl (cI, 64, .inl f3)), (a1, .inr (7, [.int v_V_0, .int v_V_1, .int v_V_2, .ref a12, .ref a13, .int v_V_5, .ref a14, .ref a15, .ref a16, .ref a17, .ref a18, .ref a19, .ref a20, .ref a21, .ref a22]))] H := hP
        have hD : va_D A [(a0, .inr (6, [.ref a2, .ref a3, .ref a4, .int v_tr_3, .ref a5, .ref a6, .int v_tr_6, .int v_tr_7, .int v_tr_8, .ref a7, .int v_tr_10, .ref a8, .ref a9, .ref a10, .ref a11, .int v_tr_15, .int v_tr_16, .int v_tr_17, .int v_tr_18, .int v_tr_19])), (a6, .inl (cI, 64, .inl f3)), (a1, .inr (7, [.int v_V_0, .int v_V_1, .int v_V_2, .ref a12, .ref a13, .int v_V_5, .ref a14, .ref a15, .ref a16, .ref a17, .ref a18, .ref a19, .ref a20, .ref a21, .ref a22]))] := hD
        have hq6 := hp
        refine lv_istore (lv' := [(5, .int r6), (0, .ref a0), (1, .ref a1), (2, .long b2), (4, .int x2)]) hx hb dX6_addUp_32 hl (by decide) rfl (fun ls hl => ?_)
        refine lv_iconst (v := 0) hx hb dX6_addUp_34 (by decide) ?_
        refine lv_istore (lv' := [(6, .int 0), (5, .int r6), (0, .ref a0), (1, .ref a1), (2, .long b2), (4, .int x2)]) hx hb dX6_addUp_35 hl (by decide) rfl (fun ls hl => ?_)
        have L_37 : ∀ (n : Nat) (x7 : Int32) (f8 : Nat → Int32) (H : Heap) (locs : List Loc) (ls : Array Slot), (0 ≤ x7.toInt ∧ x7.toInt ≤ 40) → 40 - x7.toInt < (n : Int) → va_P G cl [(a0, .inr (6, [.ref a2, .ref a3, .ref a4, .int v_tr_3, .ref a5, .ref a6, .int v_tr_6, .int v_tr_7, .int v_tr_8, .ref a7, .int v_tr_10, .ref a8, .ref a9, .ref a10, .ref a11, .int v_tr_15, .int v_tr_16, .int v_tr_17, .int v_tr_18, .int v_tr_19])), (a6, .inl (cI, 64, .inl f8)), (a1, .inr (7, [.int v_V_0, .int v_V_1, .int v_V_2, .ref a12, .ref a13, .int v_V_5, .ref a14, .ref a15, .ref a16, .ref a17, .ref a18, .ref a19, .ref a20, .ref a21, .ref a22]))] H → va_D A [(a0, .inr (6, [.ref a2, .ref a3, .ref a4, .int v_tr_3, .ref a5, .ref a6, .int v_tr_6, .int v_tr_7, .int v_tr_8, .ref a7, .int v_tr_10, .ref a8, .ref a9, .ref a10, .ref a11, .int v_tr_15, .int v_tr_16, .int v_tr_17, .int v_tr_18, .int v_tr_19])), (a6, .inl (cI, 64, .inl f8)), (a1, .inr (7, [.int v_V_0, .int v_V_1, .int v_V_2, .ref a12, .ref a13, .int v_V_5, .ref a14, .ref a15, .ref a16, .ref a17, .ref a18, .ref a19, .ref a20, .ref a21, .ref a22]))] → va_S A s.heap H locs → lv_has ls 7 [(0, .ref a0), (1, .ref a1), (2, .long b2), (4, .int x2), (5, .int r6), (6, .int x7)] → W p l e ({ frames := 1, cells := 0, slots := 0, locals := 22 } : Room) s m args below meth c H locs 0 0 Qm (F0 m 37 ls []) := by
          intro n
          induction n with
          | zero => intro x7 f8 H locs ls hv hm; omega
          | succ n ih_37 =>
            intro x7 f8 H locs ls hv hm hP hD hS hl
            refine lv_iload hx hb dX6_addUp_37 (lv_at hl 5 rfl) ?_
            refine lv_iconst (v := 1) hx hb dX6_addUp_39 (by decide) ?_
            refine lv_iload hx hb dX6_addUp_40 (lv_at hl 3 rfl) ?_
            refine lv_ishl hx hb dX6_addUp_42 ?_
            refine t_i (fun q => 1 ≤ q.toInt ∧ q.toInt ≤ 32) (shl1_b (k := 5) (by decide) (by omega) (by omega)) (fun z9 tz9 => ?_)
            refine lv_icmp_ge (tgt := 74) hx hb dX6_addUp_43 (by decide) (fun c10 => ?_) (fun c10 => ?_)
            · have dc10 : z9.toInt ≤ x7.toInt := (fa_le _ _).mp c10
              obtain ⟨z11, ez11⟩ : ∃ q : Int32, q = x2 + Int32.ofInt 1 := ⟨_, rfl⟩
              have tz11 : z11.toInt = x2.toInt + 1 := by rw [ez11]; exact add_i (y := 1) (by have p_ := i_lo x2; show _ ≤ _ + (1 : Int); omega) (by have q_ := i_hi x2; show _ + (1 : Int) ≤ _; omega)
              refine lv_iinc (v := z11) (lv' := [(4, .int z11), (0, .ref a0), (1, .ref a1), (2, .long b2), (5, .int r6), (6, .int x7)]) hx hb dX6_addUp_74 hl (k := 3) rfl ez11.symm (by decide) rfl (fun ls hl => ?_)
              refine lv_goto (tgt := 10) hx hb dX6_addUp_77 (by decide) ?_
              exact ih  z11 f8 H locs ls (by omega) (by omega) (hP.subm [0, 1, 2] rfl) (hD.sub [0, 1, 2] (by decide +kernel) rfl) hS (lv_sub hl [1, 2, 3, 0] rfl)
            · have dc10 : x7.toInt < z9.toInt := fa_nle c10
              refine lv_aload_n hx hb dX6_addUp_46 rfl (lv_at hl 0 rfl) ?_
              refine k_get hC hK hP iX6 0 5 wf_X6_28 rfl (by decide) rfl rfl dX6_addUp_47 ?_
              refine lv_iload hx hb dX6_addUp_50 (lv_at hl 5 rfl) ?_
              refine lv_iconst (v := 1) hx hb dX6_addUp_52 (by decide) ?_
              refine lv_iload hx hb dX6_addUp_53 (lv_at hl 3 rfl) ?_
              refine lv_ishl hx hb dX6_addUp_55 ?_
              refine t_i (fun q => 1 ≤ q.toInt ∧ q.toInt ≤ 32) (shl1_b (k := 5) (by decide) (by omega) (by omega)) (fun z12 tz12 => ?_)
              refine lv_iadd hx hb dX6_addUp_56 ?_
              refine t_i (fun q => q.toInt = x7.toInt + z12.toInt) (add_i (by show (-2147483648 : Int) ≤ x7.toInt + z12.toInt; omega) (by show x7.toInt + z12.toInt ≤ (2147483647 : Int); omega)) (fun z13 tz13 => ?_)
              refine lv_aload_n hx hb dX6_addUp_57 rfl (lv_at hl 0 rfl) ?_
              refine k_get hC hK hP iX6 0 5 wf_X6_28 rfl (by decide) rfl rfl dX6_addUp_58 ?_
              refine lv_iload hx hb dX6_addUp_61 (lv_at hl 5 rfl) ?_
              refine t_iald hC hK hP 1 rfl (by omega) (by omega) (TA.all _) dX6_addUp_63 (fun z14 tz14 => ?_)
              refine lv_iload hx hb dX6_addUp_64 (lv_at hl 4 rfl) ?_
              refine lv_iadd hx hb dX6_addUp_66 ?_
              refine lv_topi (fun z15 _ => ?_)
              refine t_iast hC hK hP hD hS 1 rfl (by omega) (by omega) (TA.all _) ⟨i_lo _, i_hi _⟩ dX6_addUp_67 (fun f16 H locs hT_f16 hP hD hS => ?_)
              have hP : va_P G cl [(a0, .inr (6, [.ref a2, .ref a3, .ref a4, .int v_tr_3, .ref a5, .ref a6, .int v_tr_6, .int v_tr_7, .int v_tr_8, .ref a7, .int v_tr_10, .ref a8, .ref a9, .ref a10, .ref a11, .int v_tr_15, .int v_tr_16, .int v_tr_17, .int v_tr_18, .int v_tr_19])), (a6, .inl (cI, 64, .inl f16)), (a1, .inr (7, [.int v_V_0, .int v_V_1, .int v_V_2, .ref a12, .ref a13, .int v_V_5, .ref a14, .ref a15, .ref a16, .ref a17, .ref a18, .ref a19, .ref a20, .ref a21, .ref a22]))] H := hP
              have hD : va_D A [(a0, .inr (6, [.ref a2, .ref a3, .ref a4, .int v_tr_3, .ref a5, .ref a6, .int v_tr_6, .int v_tr_7, .int v_tr_8, .ref a7, .int v_tr_10, .ref a8, .ref a9, .ref a10, .ref a11, .int v_tr_15, .int v_tr_16, .int v_tr_17, .int v_tr_18, .int v_tr_19])), (a6, .inl (cI, 64, .inl f16)), (a1, .inr (7, [.int v_V_0, .int v_V_1, .int v_V_2, .ref a12, .ref a13, .int v_V_5, .ref a14, .ref a15, .ref a16, .ref a17, .ref a18, .ref a19, .ref a20, .ref a21, .ref a22]))] := hD
              obtain ⟨z17, ez17⟩ : ∃ q : Int32, q = x7 + Int32.ofInt 1 := ⟨_, rfl⟩
              have tz17 : z17.toInt = x7.toInt + 1 := by rw [ez17]; exact add_i (y := 1) (by have p_ := i_lo x7; show _ ≤ _ + (1 : Int); omega) (by have q_ := i_hi x7; show _ + (1 : Int) ≤ _; omega)
              refine lv_iinc (v := z17) (lv' := [(6, .int z17), (0, .ref a0), (1, .ref a1), (2, .long b2), (4, .int x2), (5, .int r6)]) hx hb dX6_addUp_68 hl (k := 5) rfl ez17.symm (by decide) rfl (fun ls hl => ?_)
              refine lv_goto (tgt := 37) hx hb dX6_addUp_71 (by decide) ?_
              exact ih_37  z17 f16 H locs ls (by omega) (by omega) (hP.subm [0, 1, 2] rfl) (hD.sub [0, 1, 2] (by decide +kernel) rfl) hS (lv_sub hl [1, 2, 3, 4, 5, 0] rfl)
        have l_l18 : (0 : Int32).toInt = 0 := rfl
        exact L_37 41 0 f3 H locs ls (by omega) (by omega) (hP.subm [0, 1, 2] rfl) (hD.sub [0, 1, 2] (by decide +kernel) rfl) hS (lv_sub hl [2, 3, 4, 5, 1, 0] rfl)
  have l_l19 : (0 : Int32).toInt = 0 := rfl
  exact L_10 7 0 f1 H locs ls (by omega) (by omega) (hP.subm [0, 1, 2] rfl) (hD.sub [0, 1, 2] (by decide +kernel) rfl) hS (lv_sub hl [1, 2, 3, 0] rfl)
theorem dX6_countShown_0 : decode cX6_countShown 0 = .ok (.aload_n 1, 1) := by decide +kernel
theorem dX6_countShown_1 : decode cX6_countShown 1 = .ok (.lload_n 2, 1) := by decide +kernel
theorem dX6_countShown_2 : decode cX6_countShown 2 = .ok (.invokevirtual 130, 3) := by decide +kernel
set_option maxRecDepth 100000 in
theorem wm_X6_130 : Cond.methodLink RX6 130 yX7_armOf ∈ gw := gm (List.mem_of_getElem? (i := 1059) (by decide +kernel)) rfl
theorem dX6_countShown_5 : decode cX6_countShown 5 = .ok (.istore 4, 2) := by decide +kernel
theorem dX6_countShown_7 : decode cX6_countShown 7 = .ok (.aload_n 0, 1) := by decide +kernel
theorem dX6_countShown_8 : decode cX6_countShown 8 = .ok (.aload_n 1, 1) := by decide +kernel
theorem dX6_countShown_9 : decode cX6_countShown 9 = .ok (.lload_n 2, 1) := by decide +kernel
theorem dX6_countShown_10 : decode cX6_countShown 10 = .ok (.invokevirtual 134, 3) := by decide +kernel
set_option maxRecDepth 100000 in
theorem wm_X6_134 : Cond.methodLink RX6 134 yX6_addUp ∈ gw := gm (List.mem_of_getElem? (i := 1060) (by decide +kernel)) rfl
set_option maxRecDepth 100000 in
theorem mi_X6_addUp : MI yX6_addUp cX6_addUp 7 none 2 := ⟨gm (List.mem_of_getElem? (i := 1063) rfl) rfl, gm (List.mem_of_getElem? (i := 122) (by decide +kernel)) rfl, by decide, by decide, by decide +kernel⟩
set_option maxRecDepth 100000 in
theorem in_X6_addUp : Cond.instanceMethod yX6_addUp ∈ gw := gm (List.mem_of_getElem? (i := 1062) (by decide +kernel)) rfl
set_option maxRecDepth 100000 in
theorem se_X6_addUp : Cond.selects yX6_addUp.cls yX6_addUp yX6_addUp ∈ gw := gm (List.mem_of_getElem? (i := 41) (by decide +kernel)) rfl
theorem dX6_countShown_13 : decode cX6_countShown 13 = .ok (.iconst 0, 1) := by decide +kernel
theorem dX6_countShown_14 : decode cX6_countShown 14 = .ok (.istore 5, 2) := by decide +kernel
theorem dX6_countShown_16 : decode cX6_countShown 16 = .ok (.iload 5, 2) := by decide +kernel
theorem dX6_countShown_18 : decode cX6_countShown 18 = .ok (.aload_n 0, 1) := by decide +kernel
theorem dX6_countShown_19 : decode cX6_countShown 19 = .ok (.getfield 21, 3) := by decide +kernel
set_option maxRecDepth 100000 in
theorem wf_X6_21 : Cond.fieldLink RX6 21 "StoneTrust$Trials" "codeCount" "I" ∈ gw := gm (List.mem_of_getElem? (i := 455) (by decide +kernel)) rfl
theorem dX6_countShown_22 : decode cX6_countShown 22 = .ok (.if_icmp .ge 72, 3) := by decide +kernel
theorem dX6_countShown_94 : decode cX6_countShown 94 = .ok (.return_, 1) := by decide +kernel
theorem dX6_countShown_25 : decode cX6_countShown 25 = .ok (.bipush 100, 2) := by decide +kernel
theorem dX6_countShown_27 : decode cX6_countShown 27 = .ok (.aload_n 0, 1) := by decide +kernel
theorem dX6_countShown_28 : decode cX6_countShown 28 = .ok (.getfield 28, 3) := by decide +kernel
theorem dX6_countShown_31 : decode cX6_countShown 31 = .ok (.aload_n 0, 1) := by decide +kernel
theorem dX6_countShown_32 : decode cX6_countShown 32 = .ok (.getfield 11, 3) := by decide +kernel
theorem dX6_countShown_35 : decode cX6_countShown 35 = .ok (.aload_n 0, 1) := by decide +kernel
theorem dX6_countShown_36 : decode cX6_countShown 36 = .ok (.getfield 18, 3) := by decide +kernel
set_option maxRecDepth 100000 in
theorem wf_X6_18 : Cond.fieldLink RX6 18 "StoneTrust$Trials" "codes" "[I" ∈ gw := gm (List.mem_of_getElem? (i := 454) (by decide +kernel)) rfl
theorem dX6_countShown_39 : decode cX6_countShown 39 = .ok (.iload 5, 2) := by decide +kernel
theorem dX6_countShown_41 : decode cX6_countShown 41 = .ok (.iaload, 1) := by decide +kernel
theorem dX6_countShown_42 : decode cX6_countShown 42 = .ok (.iaload, 1) := by decide +kernel
theorem dX6_countShown_43 : decode cX6_countShown 43 = .ok (.iaload, 1) := by decide +kernel
theorem dX6_countShown_44 : decode cX6_countShown 44 = .ok (.imul, 1) := by decide +kernel
theorem dX6_countShown_45 : decode cX6_countShown 45 = .ok (.iload 4, 2) := by decide +kernel
theorem dX6_countShown_47 : decode cX6_countShown 47 = .ok (.aload_n 0, 1) := by decide +kernel
theorem dX6_countShown_48 : decode cX6_countShown 48 = .ok (.getfield 28, 3) := by decide +kernel
theorem dX6_countShown_51 : decode cX6_countShown 51 = .ok (.aload_n 0, 1) := by decide +kernel
theorem dX6_countShown_52 : decode cX6_countShown 52 = .ok (.getfield 15, 3) := by decide +kernel
theorem dX6_countShown_55 : decode cX6_countShown 55 = .ok (.aload_n 0, 1) := by decide +kernel
theorem dX6_countShown_56 : decode cX6_countShown 56 = .ok (.getfield 18, 3) := by decide +kernel
theorem dX6_countShown_59 : decode cX6_countShown 59 = .ok (.iload 5, 2) := by decide +kernel
theorem dX6_countShown_61 : decode cX6_countShown 61 = .ok (.iaload, 1) := by decide +kernel
theorem dX6_countShown_62 : decode cX6_countShown 62 = .ok (.iaload, 1) := by decide +kernel
theorem dX6_countShown_63 : decode cX6_countShown 63 = .ok (.iaload, 1) := by decide +kernel
theorem dX6_countShown_64 : decode cX6_countShown 64 = .ok (.imul, 1) := by decide +kernel
theorem dX6_countShown_65 : decode cX6_countShown 65 = .ok (.isub, 1) := by decide +kernel
theorem dX6_countShown_66 : decode cX6_countShown 66 = .ok (.istore 6, 2) := by decide +kernel
theorem dX6_countShown_68 : decode cX6_countShown 68 = .ok (.aload_n 0, 1) := by decide +kernel
theorem dX6_countShown_69 : decode cX6_countShown 69 = .ok (.getfield 25, 3) := by decide +kernel
theorem dX6_countShown_72 : decode cX6_countShown 72 = .ok (.iload 5, 2) := by decide +kernel
theorem dX6_countShown_74 : decode cX6_countShown 74 = .ok (.iconst 3, 1) := by decide +kernel
theorem dX6_countShown_75 : decode cX6_countShown 75 = .ok (.imul, 1) := by decide +kernel
theorem dX6_countShown_76 : decode cX6_countShown 76 = .ok (.aload_n 1, 1) := by decide +kernel
theorem dX6_countShown_77 : decode cX6_countShown 77 = .ok (.iload 6, 2) := by decide +kernel
theorem dX6_countShown_79 : decode cX6_countShown 79 = .ok (.invokevirtual 137, 3) := by decide +kernel
set_option maxRecDepth 100000 in
theorem wm_X6_137 : Cond.methodLink RX6 137 yX7_verdict ∈ gw := gm (List.mem_of_getElem? (i := 1065) (by decide +kernel)) rfl
theorem dX6_countShown_82 : decode cX6_countShown 82 = .ok (.iadd, 1) := by decide +kernel
theorem dX6_countShown_83 : decode cX6_countShown 83 = .ok (.dup2, 1) := by decide +kernel
theorem dX6_countShown_84 : decode cX6_countShown 84 = .ok (.iaload, 1) := by decide +kernel
theorem dX6_countShown_85 : decode cX6_countShown 85 = .ok (.iconst 1, 1) := by decide +kernel
theorem dX6_countShown_86 : decode cX6_countShown 86 = .ok (.iadd, 1) := by decide +kernel
theorem dX6_countShown_87 : decode cX6_countShown 87 = .ok (.iastore, 1) := by decide +kernel
theorem dX6_countShown_88 : decode cX6_countShown 88 = .ok (.iinc 5 1, 3) := by decide +kernel
theorem dX6_countShown_91 : decode cX6_countShown 91 = .ok (.goto (-75), 3) := by decide +kernel
set_option maxHeartbeats 4000000 in
set_option maxRecDepth 100000 in
theorem c105_X6_countShown (l : Launch) (G : va_G) (cI cJ cB cZ : ClassId) (a0 a1 a2 a3 a4 a5 a6 a7 a8 a9 a10 a11 a12 a13 a14 a15 a16 a17 a18 a19 a20 a21 a22 : Nat) (b2 : Int64) (v_V_0 : Int32) (v_V_1 : Int32) (v_V_2 : Int32) (v_V_5 : Int32) (v_tr_3 : Int32) (v_tr_6 : Int32) (v_tr_7 : Int32) (v_tr_8 : Int32) (v_tr_10 : Int32) (v_tr_15 : Int32) (v_tr_16 : Int32) (v_tr_17 : Int32) (v_tr_18 : Int32) (v_tr_19 : Int32) (g_tr_grains : Nat → Int32) (g_tr_codes : Nat → Int32) (g_tr_left : Nat → Int32) (g_tr_right : Nat → Int32) (g_tr_shown : Nat → Int32) (hv_0 : 0 ≤ v_V_0.toInt) (hv_1 : v_V_0.toInt ≤ 110) (hv_2 : 0 ≤ v_V_1.toInt) (hv_3 : v_V_1.toInt ≤ 110) (hv_4 : 0 ≤ v_V_5.toInt) (hv_5 : v_V_5.toInt ≤ 6) (hv_6 : 0 ≤ v_tr_3.toInt) (hv_7 : v_tr_3.toInt ≤ 729) (hv_8 : 0 ≤ v_tr_10.toInt) (hv_9 : v_tr_10.toInt ≤ 240) (hv_10 : 0 ≤ v_tr_15.toInt) (hv_11 : v_tr_15.toInt ≤ 3) (hT_g_tr_codes : TA 0 728 g_tr_codes) (hT_g_tr_left : TA 0 63 g_tr_left) (hT_g_tr_right : TA 0 63 g_tr_right) : Con l G (TY cI cJ cB cZ) yX6_countShown cX6_countShown 7 none ({ frames := 2, cells := 0, slots := 0, locals := 48 } : Room) [.ref a0, .ref a1, .long b2] [(a1, .inr (7, [.int v_V_0, .int v_V_1, .int v_V_2, .ref a2, .ref a3, .int v_V_5, .ref a4, .ref a5, .ref a6, .ref a7, .ref a8, .ref a9, .ref a10, .ref a11, .ref a12])), (a0, .inr (6, [.ref a13, .ref a14, .ref a15, .int v_tr_3, .ref a16, .ref a17, .int v_tr_6, .int v_tr_7, .int v_tr_8, .ref a18, .int v_tr_10, .ref a19, .ref a20, .ref a21, .ref a22, .int v_tr_15, .int v_tr_16, .int v_tr_17, .int v_tr_18, .int v_tr_19])), (a17, .inl (cI, 64, .inl g_tr_grains)), (a15, .inl (cI, 729, .inl g_tr_codes)), (a13, .inl (cI, 729, .inl g_tr_left)), (a14, .inl (cI, 729, .inl g_tr_right)), (a16, .inl (cI, 2187, .inl g_tr_shown))] (QV G (TY cI cJ cB cZ) (fun u : (Nat → Int32) × (Nat → Int32) => (True)) (fun u : (Nat → Int32) × (Nat → Int32) => [(a1, .inr (7, [.int v_V_0, .int v_V_1, .int v_V_2, .ref a2, .ref a3, .int v_V_5, .ref a4, .ref a5, .ref a6, .ref a7, .ref a8, .ref a9, .ref a10, .ref a11, .ref a12])), (a0, .inr (6, [.ref a13, .ref a14, .ref a15, .int v_tr_3, .ref a16, .ref a17, .int v_tr_6, .int v_tr_7, .int v_tr_8, .ref a18, .int v_tr_10, .ref a19, .ref a20, .ref a21, .ref a22, .int v_tr_15, .int v_tr_16, .int v_tr_17, .int v_tr_18, .int v_tr_19])), (a17, .inl (cI, 64, .inl u.1)), (a15, .inl (cI, 729, .inl g_tr_codes)), (a13, .inl (cI, 729, .inl g_tr_left)), (a14, .inl (cI, 729, .inl g_tr_right)), (a16, .inl (cI, 2187, .inl u.2))])) := by
  refine k_met (by decide) (Nat.le_of_ble_eq_true rfl) ?_
  intro p e s m below meth c A ls hC hr hlk hnm hN hZ hK hA hP hD hS hl
  have hl : lv_has ls 7 [(0, .ref a0), (1, .ref a1), (2, .long b2)] := hl
  generalize hQm : MQ below _ _ s _ _ A = Qm
  generalize (List.toArray _ : Array Value) = args at hC hQm ⊢
  obtain ⟨hx, hb, hml, hown, hts⟩ := id hC
  obtain ⟨H, hH⟩ : ∃ q, q = s.heap := ⟨_, rfl⟩
  obtain ⟨locs, hlo⟩ : ∃ q : List Loc, q = [] := ⟨_, rfl⟩
  have hP : va_P G cl [(a1, .inr (7, [.int v_V_0, .int v_V_1, .int v_V_2, .ref a2, .ref a3, .int v_V_5, .ref a4, .ref a5, .ref a6, .ref a7, .ref a8, .ref a9, .ref a10, .ref a11, .ref a12])), (a0, .inr (6, [.ref a13, .ref a14, .ref a15, .int v_tr_3, .ref a16, .ref a17, .int v_tr_6, .int v_tr_7, .int v_tr_8, .ref a18, .int v_tr_10, .ref a19, .ref a20, .ref a21, .ref a22, .int v_tr_15, .int v_tr_16, .int v_tr_17, .int v_tr_18, .int v_tr_19])), (a17, .inl (cI, 64, .inl g_tr_grains)), (a15, .inl (cI, 729, .inl g_tr_codes)), (a13, .inl (cI, 729, .inl g_tr_left)), (a14, .inl (cI, 729, .inl g_tr_right)), (a16, .inl (cI, 2187, .inl g_tr_shown))] H := by rw [hH]; exact hP
  have hS : va_S A s.heap H locs := by rw [hH, hlo]; exact hS
  rw [← hlo]
  rw [← hH]
  refine lv_aload_n hx hb dX6_countShown_0 rfl (lv_at hl 1 rfl) ?_
  refine lv_lload_n hx hb dX6_countShown_1 rfl (lv_at hl 2 rfl) ?_
  refine k_ci (wr := [(a0, .inr (6, [.ref a13, .ref a14, .ref a15, .int v_tr_3, .ref a16, .ref a17, .int v_tr_6, .int v_tr_7, .int v_tr_8, .ref a18, .int v_tr_10, .ref a19, .ref a20, .ref a21, .ref a22, .int v_tr_15, .int v_tr_16, .int v_tr_17, .int v_tr_18, .int v_tr_19])), (a17, .inl (cI, 64, .inl g_tr_grains)), (a15, .inl (cI, 729, .inl g_tr_codes)), (a13, .inl (cI, 729, .inl g_tr_left)), (a14, .inl (cI, 729, .inl g_tr_right)), (a16, .inl (cI, 2187, .inl g_tr_shown))]) (k_rV hC hN hZ hS hA hK hP hD (c34_X7_armOf l G cI cJ cB cZ a1 a2 a3 a4 a5 a6 a7 a8 a9 a10 a11 a12 b2 v_V_0 v_V_1 v_V_2 v_V_5 hv_0 hv_1 hv_2 hv_3 hv_4 hv_5) [0] rfl (by decide +kernel) mi_X7_armOf in_X7_armOf se_X7_armOf wm_X6_130 7 0 rfl rfl rfl hl.1 rfl rfl (Nat.le_of_ble_eq_true rfl) ⟨(Nat.le_of_ble_eq_true rfl), (Nat.le_of_ble_eq_true rfl)⟩ dX6_countShown_2 ⟨(Nat.le_of_ble_eq_true rfl), (Nat.le_of_ble_eq_true rfl)⟩) hP hD hS hA [0] [1, 2, 3, 4, 5, 6] rfl rfl (by decide +kernel) (by decide +kernel) (fun r1 u1 H locs hp hP hD hS => ?_)
  have hp : (0 ≤ r1.toInt ∧ r1.toInt ≤ 117) := hp
  have hP : va_P G cl [(a0, .inr (6, [.ref a13, .ref a14, .ref a15, .int v_tr_3, .ref a16, .ref a17, .int v_tr_6, .int v_tr_7, .int v_tr_8, .ref a18, .int v_tr_10, .ref a19, .ref a20, .ref a21, .ref a22, .int v_tr_15, .int v_tr_16, .int v_tr_17, .int v_tr_18, .int v_tr_19])), (a17, .inl (cI, 64, .inl g_tr_grains)), (a15, .inl (cI, 729, .inl g_tr_codes)), (a13, .inl (cI, 729, .inl g_tr_left)), (a14, .inl (cI, 729, .inl g_tr_right)), (a16, .inl (cI, 2187, .inl g_tr_shown)), (a1, .inr (7, [.int v_V_0, .int v_V_1, .int v_V_2, .ref a2, .ref a3, .int v_V_5, .ref a4, .ref a5, .ref a6, .ref a7, .ref a8, .ref a9, .ref a10, .ref a11, .ref a12]))] H := hP
  have hD : va_D A [(a0, .inr (6, [.ref a13, .ref a14, .ref a15, .int v_tr_3, .ref a16, .ref a17, .int v_tr_6, .int v_tr_7, .int v_tr_8, .ref a18, .int v_tr_10, .ref a19, .ref a20, .ref a21, .ref a22, .int v_tr_15, .int v_tr_16, .int v_tr_17, .int v_tr_18, .int v_tr_19])), (a17, .inl (cI, 64, .inl g_tr_grains)), (a15, .inl (cI, 729, .inl g_tr_codes)), (a13, .inl (cI, 729, .inl g_tr_left)), (a14, .inl (cI, 729, .inl g_tr_right)), (a16, .inl (cI, 2187, .inl g_tr_shown)), (a1, .inr (7, [.int v_V_0, .int v_V_1, .int v_V_2, .ref a2, .ref a3, .int v_V_5, .ref a4, .ref a5, .ref a6, .ref a7, .ref a8, .ref a9, .ref a10, .ref a11, .ref a12]))] := hD
  have hq1 := hp
  refine lv_istore (lv' := [(4, .int r1), (0, .ref a0), (1, .ref a1), (2, .long b2)]) hx hb dX6_countShown_5 hl (by decide) rfl (fun ls hl => ?_)
  refine lv_aload_n hx hb dX6_countShown_7 rfl (lv_at hl 1 rfl) ?_
  refine lv_aload_n hx hb dX6_countShown_8 rfl (lv_at hl 2 rfl) ?_
  refine lv_lload_n hx hb dX6_countShown_9 rfl (lv_at hl 3 rfl) ?_
  refine k_cv (wr := [(a15, .inl (cI, 729, .inl g_tr_codes)), (a13, .inl (cI, 729, .inl g_tr_left)), (a14, .inl (cI, 729, .inl g_tr_right)), (a16, .inl (cI, 2187, .inl g_tr_shown))]) (k_rV hC hN hZ hS hA hK hP hD (c104_X6_addUp l G cI cJ cB cZ a0 a1 a13 a14 a15 a16 a17 a18 a19 a20 a21 a22 a2 a3 a4 a5 a6 a7 a8 a9 a10 a11 a12 b2 v_tr_3 v_tr_6 v_tr_7 v_tr_8 v_tr_10 v_tr_15 v_tr_16 v_tr_17 v_tr_18 v_tr_19 v_V_0 v_V_1 v_V_2 v_V_5 g_tr_grains hv_6 hv_7 hv_8 hv_9 hv_10 hv_11 hv_0 hv_1 hv_2 hv_3 hv_4 hv_5) [0, 1, 6] rfl (by decide +kernel) mi_X6_addUp in_X6_addUp se_X6_addUp wm_X6_134 6 0 rfl rfl rfl hl.1 rfl rfl (Nat.le_of_ble_eq_true rfl) ⟨(Nat.le_of_ble_eq_true rfl), (Nat.le_of_ble_eq_true rfl)⟩ dX6_countShown_10 ⟨(Nat.le_of_ble_eq_true rfl), (Nat.le_of_ble_eq_true rfl)⟩) hP hD hS hA [0, 1, 6] [2, 3, 4, 5] rfl rfl (by decide +kernel) (by decide +kernel) (fun u2 H locs hp hP hD hS => ?_)
  obtain ⟨f3, ef3⟩ : ∃ q, q = u2 := ⟨_, rfl⟩
  subst ef3
  have hp : (True) := hp
  have hP : va_P G cl [(a15, .inl (cI, 729, .inl g_tr_codes)), (a13, .inl (cI, 729, .inl g_tr_left)), (a14, .inl (cI, 729, .inl g_tr_right)), (a16, .inl (cI, 2187, .inl g_tr_shown)), (a0, .inr (6, [.ref a13, .ref a14, .ref a15, .int v_tr_3, .ref a16, .ref a17, .int v_tr_6, .int v_tr_7, .int v_tr_8, .ref a18, .int v_tr_10, .ref a19, .ref a20, .ref a21, .ref a22, .int v_tr_15, .int v_tr_16, .int v_tr_17, .int v_tr_18, .int v_tr_19])), (a17, .inl (cI, 64, .inl f3)), (a1, .inr (7, [.int v_V_0, .int v_V_1, .int v_V_2, .ref a2, .ref a3, .int v_V_5, .ref a4, .ref a5, .ref a6, .ref a7, .ref a8, .ref a9, .ref a10, .ref a11, .ref a12]))] H := hP
  have hD : va_D A [(a15, .inl (cI, 729, .inl g_tr_codes)), (a13, .inl (cI, 729, .inl g_tr_left)), (a14, .inl (cI, 729, .inl g_tr_right)), (a16, .inl (cI, 2187, .inl g_tr_shown)), (a0, .inr (6, [.ref a13, .ref a14, .ref a15, .int v_tr_3, .ref a16, .ref a17, .int v_tr_6, .int v_tr_7, .int v_tr_8, .ref a18, .int v_tr_10, .ref a19, .ref a20, .ref a21, .ref a22, .int v_tr_15, .int v_tr_16, .int v_tr_17, .int v_tr_18, .int v_tr_19])), (a17, .inl (cI, 64, .inl f3)), (a1, .inr (7, [.int v_V_0, .int v_V_1, .int v_V_2, .ref a2, .ref a3, .int v_V_5, .ref a4, .ref a5, .ref a6, .ref a7, .ref a8, .ref a9, .ref a10, .ref a11, .ref a12]))] := hD
  have hq2 := hp
  refine lv_iconst (v := 0) hx hb dX6_countShown_13 (by decide) ?_
  refine lv_istore (lv' := [(5, .int 0), (4, .int r1), (0, .ref a0), (1, .ref a1), (2, .long b2)]) hx hb dX6_countShown_14 hl (by decide) rfl (fun ls hl => ?_)
  have L_16 : ∀ (n : Nat) (x4 : Int32) (f5 : Nat → Int32) (H : Heap) (locs : List Loc) (ls : Array Slot), (0 ≤ x4.toInt ∧ x4.toInt ≤ 729) → 729 - x4.toInt < (n : Int) → va_P G cl [(a15, .inl (cI, 729, .inl g_tr_codes)), (a13, .inl (cI, 729, .inl g_tr_left)), (a14, .inl (cI, 729, .inl g_tr_right)), (a16, .inl (cI, 2187, .inl f5)), (a0, .inr (6, [.ref a13, .ref a14, .ref a15, .int v_tr_3, .ref a16, .ref a17, .int v_tr_6, .int v_tr_7, .int v_tr_8, .ref a18, .int v_tr_10, .ref a19, .ref a20, .ref a21, .ref a22, .int v_tr_15, .int v_tr_16, .int v_tr_17, .int v_tr_18, .int v_tr_19])), (a17, .inl (cI, 64, .inl f3)), (a1, .inr (7, [.int v_V_0, .int v_V_1, .int v_V_2, .ref a2, .ref a3, .int v_V_5, .ref a4, .ref a5, .ref a6, .ref a7, .ref a8, .ref a9, .ref a10, .ref a11, .ref a12]))] H → va_D A [(a15, .inl (cI, 729, .inl g_tr_codes)), (a13, .inl (cI, 729, .inl g_tr_left)), (a14, .inl (cI, 729, .inl g_tr_right)), (a16, .inl (cI, 2187, .inl f5)), (a0, .inr (6, [.ref a13, .ref a14, .ref a15, .int v_tr_3, .ref a16, .ref a17, .int v_tr_6, .int v_tr_7, .int v_tr_8, .ref a18, .int v_tr_10, .ref a19, .ref a20, .ref a21, .ref a22, .int v_tr_15, .int v_tr_16, .int v_tr_17, .int v_tr_18, .int v_tr_19])), (a17, .inl (cI, 64, .inl f3)), (a1, .inr (7, [.int v_V_0, .int v_V_1, .int v_V_2, .ref a2, .ref a3, .int v_V_5, .ref a4, .ref a5, .ref a6, .ref a7, .ref a8, .ref a9, .ref a10, .ref a11, .ref a12]))] → va_S A s.heap H locs → lv_has ls 7 [(0, .ref a0), (1, .ref a1), (2, .long b2), (4, .int r1), (5, .int x4)] → W p l e ({ frames := 2, cells := 0, slots := 0, locals := 48 } : Room) s m args below meth c H locs 0 0 Qm (F0 m 16 ls []) := by
    intro n
    induction n with
    | zero => intro x4 f5 H locs ls hv hm; omega
    | succ n ih =>
      intro x4 f5 H locs ls hv hm hP hD hS hl
      refine lv_iload hx hb dX6_countShown_16 (lv_at hl 4 rfl) ?_
      refine lv_aload_n hx hb dX6_countShown_18 rfl (lv_at hl 0 rfl) ?_
      refine k_get hC hK hP iX6 4 3 wf_X6_21 rfl (by decide) rfl rfl dX6_countShown_19 ?_
      refine lv_icmp_ge (tgt := 94) hx hb dX6_countShown_22 (by decide) (fun c6 => ?_) (fun c6 => ?_)
      · have dc6 : v_tr_3.toInt ≤ x4.toInt := (fa_le _ _).mp c6
        rw [← hQm]
        exact k_vret hC hr hlk hK hP hD hS (f3, f5) [6, 4, 5, 0, 1, 2, 3] rfl (by decide +kernel) trivial (Nat.le_of_ble_eq_true rfl) (Nat.le_of_ble_eq_true rfl) dX6_countShown_94
      · have dc6 : x4.toInt < v_tr_3.toInt := fa_nle c6
        refine lv_bipush (v := 100) hx hb dX6_countShown_25 (by decide) ?_
        refine lv_aload_n hx hb dX6_countShown_27 rfl (lv_at hl 0 rfl) ?_
        refine k_get hC hK hP iX6 4 5 wf_X6_28 rfl (by decide) rfl rfl dX6_countShown_28 ?_
        refine lv_aload_n hx hb dX6_countShown_31 rfl (lv_at hl 0 rfl) ?_
        refine k_get hC hK hP iX6 4 0 wf_X6_11 rfl (by decide) rfl rfl dX6_countShown_32 ?_
        refine lv_aload_n hx hb dX6_countShown_35 rfl (lv_at hl 0 rfl) ?_
        refine k_get hC hK hP iX6 4 2 wf_X6_18 rfl (by decide) rfl rfl dX6_countShown_36 ?_
        refine lv_iload hx hb dX6_countShown_39 (lv_at hl 4 rfl) ?_
        refine t_iald hC hK hP 0 rfl (by omega) (by omega) hT_g_tr_codes dX6_countShown_41 (fun z7 tz7 => ?_)
        refine t_iald hC hK hP 1 rfl (by omega) (by omega) hT_g_tr_left dX6_countShown_42 (fun z8 tz8 => ?_)
        refine t_iald hC hK hP 5 rfl (by omega) (by omega) (TA.all _) dX6_countShown_43 (fun z9 tz9 => ?_)
        refine lv_imul hx hb dX6_countShown_44 ?_
        refine lv_topi (fun z10 _ => ?_)
        refine lv_iload hx hb dX6_countShown_45 (lv_at hl 3 rfl) ?_
        refine lv_aload_n hx hb dX6_countShown_47 rfl (lv_at hl 0 rfl) ?_
        refine k_get hC hK hP iX6 4 5 wf_X6_28 rfl (by decide) rfl rfl dX6_countShown_48 ?_
        refine lv_aload_n hx hb dX6_countShown_51 rfl (lv_at hl 0 rfl) ?_
        refine k_get hC hK hP iX6 4 1 wf_X6_15 rfl (by decide) rfl rfl dX6_countShown_52 ?_
        refine lv_aload_n hx hb dX6_countShown_55 rfl (lv_at hl 0 rfl) ?_
        refine k_get hC hK hP iX6 4 2 wf_X6_18 rfl (by decide) rfl rfl dX6_countShown_56 ?_
        refine lv_iload hx hb dX6_countShown_59 (lv_at hl 4 rfl) ?_
        refine t_iald hC hK hP 0 rfl (by omega) (by omega) hT_g_tr_codes dX6_countShown_61 (fun z11 tz11 => ?_)
        refine t_iald hC hK hP 2 rfl (by omega) (by omega) hT_g_tr_right dX6_countShown_62 (fun z12 tz12 => ?_)
        refine t_iald hC hK hP 5 rfl (by omega) (by omega) (TA.all _) dX6_countShown_63 (fun z13 tz13 => ?_)
        refine lv_imul hx hb dX6_countShown_64 ?_
        refine lv_topi (fun z14 _ => ?_)
        refine lv_isub hx hb dX6_countShown_65 ?_
        refine lv_topi (fun z15 _ => ?_)
        refine lv_istore (lv' := [(6, .int z15), (0, .ref a0), (1, .ref a1), (2, .long b2), (4, .int r1), (5, .int x4)]) hx hb dX6_countShown_66 hl (by decide) rfl (fun ls hl => ?_)
        refine lv_aload_n hx hb dX6_countShown_68 rfl (lv_at hl 1 rfl) ?_
        refine k_get hC hK hP iX6 4 4 wf_X6_25 rfl (by decide) rfl rfl dX6_countShown_69 ?_
        refine lv_iload hx hb dX6_countShown_72 (lv_at hl 5 rfl) ?_
        refine lv_iconst (v := 3) hx hb dX6_countShown_74 (by decide) ?_
        refine lv_imul hx hb dX6_countShown_75 ?_
        refine t_i (fun q => q.toInt = x4.toInt * 3) (mul_i (by show (-2147483648 : Int) ≤ x4.toInt * 3; omega) (by show x4.toInt * 3 ≤ (2147483647 : Int); omega)) (fun z16 tz16 => ?_)
        refine lv_aload_n hx hb dX6_countShown_76 rfl (lv_at hl 2 rfl) ?_
        refine lv_iload hx hb dX6_countShown_77 (lv_at hl 0 rfl) ?_
        refine k_ci (wr := [(a15, .inl (cI, 729, .inl g_tr_codes)), (a13, .inl (cI, 729, .inl g_tr_left)), (a14, .inl (cI, 729, .inl g_tr_right)), (a16, .inl (cI, 2187, .inl f5)), (a0, .inr (6, [.ref a13, .ref a14, .ref a15, .int v_tr_3, .ref a16, .ref a17, .int v_tr_6, .int v_tr_7, .int v_tr_8, .ref a18, .int v_tr_10, .ref a19, .ref a20, .ref a21, .ref a22, .int v_tr_15, .int v_tr_16, .int v_tr_17, .int v_tr_18, .int v_tr_19])), (a17, .inl (cI, 64, .inl f3))]) (k_rV hC hN hZ hS hA hK hP hD (c39_X7_verdict l G cI cJ cB cZ a1 a2 a3 a4 a5 a6 a7 a8 a9 a10 a11 a12 z15 v_V_0 v_V_1 v_V_2 v_V_5 hv_0 hv_1 hv_2 hv_3 hv_4 hv_5) [6] rfl (by decide +kernel) mi_X7_verdict in_X7_verdict se_X7_verdict wm_X6_137 7 6 rfl rfl rfl hl.1 rfl rfl (Nat.le_of_ble_eq_true rfl) ⟨(Nat.le_of_ble_eq_true rfl), (Nat.le_of_ble_eq_true rfl)⟩ dX6_countShown_79 ⟨(Nat.le_of_ble_eq_true rfl), (Nat.le_of_ble_eq_true rfl)⟩) hP hD hS hA [6] [0, 1, 2, 3, 4, 5] rfl rfl (by decide +kernel) (by decide +kernel) (fun r17 u17 H locs hp hP hD hS => ?_)
        have hp : (0 ≤ r17.toInt ∧ r17.toInt ≤ 2) := hp
        have hP : va_P G cl [(a15, .inl (cI, 729, .inl g_tr_codes)), (a13, .inl (cI, 729, .inl g_tr_left)), (a14, .inl (cI, 729, .inl g_tr_right)), (a16, .inl (cI, 2187, .inl f5)), (a0, .inr (6, [.ref a13, .ref a14, .ref a15, .int v_tr_3, .ref a16, .ref a17, .int v_tr_6, .int v_tr_7, .int v_tr_8, .ref a18, .int v_tr_10, .ref a19, .ref a20, .ref a21, .ref a22, .int v_tr_15, .int v_tr_16, .int v_tr_17, .int v_tr_18, .int v_tr_19])), (a17, .inl (cI, 64, .inl f3)), (a1, .inr (7, [.int v_V_0, .int v_V_1, .int v_V_2, .ref a2, .ref a3, .int v_V_5, .ref a4, .ref a5, .ref a6, .ref a7, .ref a8, .ref a9, .ref a10, .ref a11, .ref a12]))] H := hP
        have hD : va_D A [(a15, .inl (cI, 729, .inl g_tr_codes)), (a13, .inl (cI, 729, .inl g_tr_left)), (a14, .inl (cI, 729, .inl g_tr_right)), (a16, .inl (cI, 2187, .inl f5)), (a0, .inr (6, [.ref a13, .ref a14, .ref a15, .int v_tr_3, .ref a16, .ref a17, .int v_tr_6, .int v_tr_7, .int v_tr_8, .ref a18, .int v_tr_10, .ref a19, .ref a20, .ref a21, .ref a22, .int v_tr_15, .int v_tr_16, .int v_tr_17, .int v_tr_18, .int v_tr_19])), (a17, .inl (cI, 64, .inl f3)), (a1, .inr (7, [.int v_V_0, .int v_V_1, .int v_V_2, .ref a2, .ref a3, .int v_V_5, .ref a4, .ref a5, .ref a6, .ref a7, .ref a8, .ref a9, .ref a10, .ref a11, .ref a12]))] := hD
        have hq17 := hp
        refine lv_iadd hx hb dX6_countShown_82 ?_
        refine t_i (fun q => q.toInt = z16.toInt + r17.toInt) (add_i (by show (-2147483648 : Int) ≤ z16.toInt + r17.toInt; omega) (by show z16.toInt + r17.toInt ≤ (2147483647 : Int); omega)) (fun z18 tz18 => ?_)
        refine lv_dup2_11 hx hb dX6_countShown_83 rfl rfl ?_
        refine t_iald hC hK hP 3 rfl (by omega) (by omega) (TA.all _) dX6_countShown_84 (fun z19 tz19 => ?_)
        refine lv_iconst (v := 1) hx hb dX6_countShown_85 (by decide) ?_
        refine lv_iadd hx hb dX6_countShown_86 ?_
        refine lv_topi (fun z20 _ => ?_)
        refine t_iast hC hK hP hD hS 3 rfl (by omega) (by omega) (TA.all _) ⟨i_lo _, i_hi _⟩ dX6_countShown_87 (fun f21 H locs hT_f21 hP hD hS => ?_)
        have hP : va_P G cl [(a15, .inl (cI, 729, .inl g_tr_codes)), (a13, .inl (cI, 729, .inl g_tr_left)), (a14, .inl (cI, 729, .inl g_tr_right)), (a16, .inl (cI, 2187, .inl f21)), (a0, .inr (6, [.ref a13, .ref a14, .ref a15, .int v_tr_3, .ref a16, .ref a17, .int v_tr_6, .int v_tr_7, .int v_tr_8, .ref a18, .int v_tr_10, .ref a19, .ref a20, .ref a21, .ref a22, .int v_tr_15, .int v_tr_16, .int v_tr_17, .int v_tr_18, .int v_tr_19])), (a17, .inl (cI, 64, .inl f3)), (a1, .inr (7, [.int v_V_0, .int v_V_1, .int v_V_2, .ref a2, .ref a3, .int v_V_5, .ref a4, .ref a5, .ref a6, .ref a7, .ref a8, .ref a9, .ref a10, .ref a11, .ref a12]))] H := hP
        have hD : va_D A [(a15, .inl (cI, 729, .inl g_tr_codes)), (a13, .inl (cI, 729, .inl g_tr_left)), (a14, .inl (cI, 729, .inl g_tr_right)), (a16, .inl (cI, 2187, .inl f21)), (a0, .inr (6, [.ref a13, .ref a14, .ref a15, .int v_tr_3, .ref a16, .ref a17, .int v_tr_6, .int v_tr_7, .int v_tr_8, .ref a18, .int v_tr_10, .ref a19, .ref a20, .ref a21, .ref a22, .int v_tr_15, .int v_tr_16, .int v_tr_17, .int v_tr_18, .int v_tr_19])), (a17, .inl (cI, 64, .inl f3)), (a1, .inr (7, [.int v_V_0, .int v_V_1, .int v_V_2, .ref a2, .ref a3, .int v_V_5, .ref a4, .ref a5, .ref a6, .ref a7, .ref a8, .ref a9, .ref a10, .ref a11, .ref a12]))] := hD
        obtain ⟨z22, ez22⟩ : ∃ q : Int32, q = x4 + Int32.ofInt 1 := ⟨_, rfl⟩
        have tz22 : z22.toInt = x4.toInt + 1 := by rw [ez22]; exact add_i (y := 1) (by have p_ := i_lo x4; show _ ≤ _ + (1 : Int); omega) (by have q_ := i_hi x4; show _ + (1 : Int) ≤ _; omega)
        refine lv_iinc (v := z22) (lv' := [(5, .int z22), (6, .int z15), (0, .ref a0), (1, .ref a1), (2, .long b2), (4, .int r1)]) hx hb dX6_countShown_88 hl (k := 5) rfl ez22.symm (by decide) rfl (fun ls hl => ?_)
        refine lv_goto (tgt := 16) hx hb dX6_countShown_91 (by decide) ?_
        exact ih  z22 f21 H locs ls (by omega) (by omega) (hP.subm [0, 1, 2, 3, 4, 5, 6] rfl) (hD.sub [0, 1, 2, 3, 4, 5, 6] (by decide +kernel) rfl) hS (lv_sub hl [2, 3, 4, 5, 0] rfl)
  have l_l23 : (0 : Int32).toInt = 0 := rfl
  exact L_16 730 0 g_tr_shown H locs ls (by omega) (by omega) (hP.subm [0, 1, 2, 3, 4, 5, 6] rfl) (hD.sub [0, 1, 2, 3, 4, 5, 6] (by decide +kernel) rfl) hS (lv_sub hl [2, 3, 4, 1, 0] rfl)
theorem dX6_takeAll_0 : decode cX6_takeAll 0 = .ok (.iconst 0, 1) := by decide +kernel
theorem dX6_takeAll_1 : decode cX6_takeAll 1 = .ok (.istore_n 1, 1) := by decide +kernel
theorem dX6_takeAll_2 : decode cX6_takeAll 2 = .ok (.iload_n 1, 1) := by decide +kernel
theorem dX6_takeAll_3 : decode cX6_takeAll 3 = .ok (.iconst 3, 1) := by decide +kernel
theorem dX6_takeAll_4 : decode cX6_takeAll 4 = .ok (.if_icmp .ge 28, 3) := by decide +kernel
theorem dX6_takeAll_32 : decode cX6_takeAll 32 = .ok (.return_, 1) := by decide +kernel
theorem dX6_takeAll_7 : decode cX6_takeAll 7 = .ok (.aload_n 0, 1) := by decide +kernel
theorem dX6_takeAll_8 : decode cX6_takeAll 8 = .ok (.getfield 50, 3) := by decide +kernel
set_option maxRecDepth 100000 in
theorem wf_X6_50 : Cond.fieldLink RX6 50 "StoneTrust$Trials" "part" "[J" ∈ gw := gm (List.mem_of_getElem? (i := 466) (by decide +kernel)) rfl
theorem dX6_takeAll_11 : decode cX6_takeAll 11 = .ok (.iload_n 1, 1) := by decide +kernel
theorem dX6_takeAll_12 : decode cX6_takeAll 12 = .ok (.aload_n 0, 1) := by decide +kernel
theorem dX6_takeAll_13 : decode cX6_takeAll 13 = .ok (.getfield 53, 3) := by decide +kernel
set_option maxRecDepth 100000 in
theorem wf_X6_53 : Cond.fieldLink RX6 53 "StoneTrust$Trials" "said" "[J" ∈ gw := gm (List.mem_of_getElem? (i := 467) (by decide +kernel)) rfl
theorem dX6_takeAll_16 : decode cX6_takeAll 16 = .ok (.iload_n 1, 1) := by decide +kernel
theorem dX6_takeAll_17 : decode cX6_takeAll 17 = .ok (.laload, 1) := by decide +kernel
theorem dX6_takeAll_18 : decode cX6_takeAll 18 = .ok (.aload_n 0, 1) := by decide +kernel
theorem dX6_takeAll_19 : decode cX6_takeAll 19 = .ok (.getfield 56, 3) := by decide +kernel
set_option maxRecDepth 100000 in
theorem wf_X6_56 : Cond.fieldLink RX6 56 "StoneTrust$Trials" "lies" "[J" ∈ gw := gm (List.mem_of_getElem? (i := 468) (by decide +kernel)) rfl
theorem dX6_takeAll_22 : decode cX6_takeAll 22 = .ok (.iload_n 1, 1) := by decide +kernel
theorem dX6_takeAll_23 : decode cX6_takeAll 23 = .ok (.laload, 1) := by decide +kernel
theorem dX6_takeAll_24 : decode cX6_takeAll 24 = .ok (.lor, 1) := by decide +kernel
theorem dX6_takeAll_25 : decode cX6_takeAll 25 = .ok (.lastore, 1) := by decide +kernel
theorem dX6_takeAll_26 : decode cX6_takeAll 26 = .ok (.iinc 1 1, 3) := by decide +kernel
theorem dX6_takeAll_29 : decode cX6_takeAll 29 = .ok (.goto (-27), 3) := by decide +kernel
set_option maxHeartbeats 4000000 in
set_option maxRecDepth 100000 in
theorem c106_X6_takeAll (l : Launch) (G : va_G) (cI cJ cB cZ : ClassId) (a0 a1 a2 a3 a4 a5 a6 a7 a8 a9 a10 : Nat) (v_tr_3 : Int32) (v_tr_6 : Int32) (v_tr_7 : Int32) (v_tr_8 : Int32) (v_tr_10 : Int32) (v_tr_15 : Int32) (v_tr_16 : Int32) (v_tr_17 : Int32) (v_tr_18 : Int32) (v_tr_19 : Int32) (g_tr_said : Nat → Int64) (g_tr_lies : Nat → Int64) (g_tr_part : Nat → Int64) (hv_0 : 0 ≤ v_tr_3.toInt) (hv_1 : v_tr_3.toInt ≤ 729) (hv_2 : 0 ≤ v_tr_10.toInt) (hv_3 : v_tr_10.toInt ≤ 240) (hv_4 : 0 ≤ v_tr_15.toInt) (hv_5 : v_tr_15.toInt ≤ 3) : Con l G (TY cI cJ cB cZ) yX6_takeAll cX6_takeAll 2 none ({ frames := 0, cells := 0, slots := 0, locals := 0 } : Room) [.ref a0] [(a0, .inr (6, [.ref a1, .ref a2, .ref a3, .int v_tr_3, .ref a4, .ref a5, .int v_tr_6, .int v_tr_7, .int v_tr_8, .ref a6, .int v_tr_10, .ref a7, .ref a8, .ref a9, .ref a10, .int v_tr_15, .int v_tr_16, .int v_tr_17, .int v_tr_18, .int v_tr_19])), (a9, .inl (cJ, 3, .inr (.inl g_tr_said))), (a10, .inl (cJ, 3, .inr (.inl g_tr_lies))), (a8, .inl (cJ, 3, .inr (.inl g_tr_part)))] (QV G (TY cI cJ cB cZ) (fun u : (Nat → Int64) => (True)) (fun u : (Nat → Int64) => [(a0, .inr (6, [.ref a1, .ref a2, .ref a3, .int v_tr_3, .ref a4, .ref a5, .int v_tr_6, .int v_tr_7, .int v_tr_8, .ref a6, .int v_tr_10, .ref a7, .ref a8, .ref a9, .ref a10, .int v_tr_15, .int v_tr_16, .int v_tr_17, .int v_tr_18, .int v_tr_19])), (a9, .inl (cJ, 3, .inr (.inl g_tr_said))), (a10, .inl (cJ, 3, .inr (.inl g_tr_lies))), (a8, .inl (cJ, 3, .inr (.inl u)))])) := by
  refine k_met (by decide) (Nat.le_of_ble_eq_true rfl) ?_
  intro p e s m below meth c A ls hC hr hlk hnm hN hZ hK hA hP hD hS hl
  have hl : lv_has ls 2 [(0, .ref a0)] := hl
  generalize hQm : MQ below _ _ s _ _ A = Qm
  generalize (List.toArray _ : Array Value) = args at hC hQm ⊢
  obtain ⟨hx, hb, hml, hown, hts⟩ := id hC
  obtain ⟨H, hH⟩ : ∃ q, q = s.heap := ⟨_, rfl⟩
  obtain ⟨locs, hlo⟩ : ∃ q : List Loc, q = [] := ⟨_, rfl⟩
  have hP : va_P G cl [(a0, .inr (6, [.ref a1, .ref a2, .ref a3, .int v_tr_3, .ref a4, .ref a5, .int v_tr_6, .int v_tr_7, .int v_tr_8, .ref a6, .int v_tr_10, .ref a7, .ref a8, .ref a9, .ref a10, .int v_tr_15, .int v_tr_16, .int v_tr_17, .int v_tr_18, .int v_tr_19])), (a9, .inl (cJ, 3, .inr (.inl g_tr_said))), (a10, .inl (cJ, 3, .inr (.inl g_tr_lies))), (a8, .inl (cJ, 3, .inr (.inl g_tr_part)))] H := by rw [hH]; exact hP
  have hS : va_S A s.heap H locs := by rw [hH, hlo]; exact hS
  rw [← hlo]
  rw [← hH]
  refine lv_iconst (v := 0) hx hb dX6_takeAll_0 (by decide) ?_
  refine lv_istore_n (lv' := [(1, .int 0), (0, .ref a0)]) hx hb dX6_takeAll_1 rfl hl (by decide) rfl (fun ls hl => ?_)
  have L_2 : ∀ (n : Nat) (x1 : Int32) (f2 : Nat → Int64) (H : Heap) (locs : List Loc) (ls : Array Slot), (0 ≤ x1.toInt ∧ x1.toInt ≤ 3) → 3 - x1.toInt < (n : Int) → va_P G cl [(a0, .inr (6, [.ref a1, .ref a2, .ref a3, .int v_tr_3, .ref a4, .ref a5, .int v_tr_6, .int v_tr_7, .int v_tr_8, .ref a6, .int v_tr_10, .ref a7, .ref a8, .ref a9, .ref a10, .int v_tr_15, .int v_tr_16, .int v_tr_17, .int v_tr_18, .int v_tr_19])), (a9, .inl (cJ, 3, .inr (.inl g_tr_said))), (a10, .inl (cJ, 3, .inr (.inl g_tr_lies))), (a8, .inl (cJ, 3, .inr (.inl f2)))] H → va_D A [(a0, .inr (6, [.ref a1, .ref a2, .ref a3, .int v_tr_3, .ref a4, .ref a5, .int v_tr_6, .int v_tr_7, .int v_tr_8, .ref a6, .int v_tr_10, .ref a7, .ref a8, .ref a9, .ref a10, .int v_tr_15, .int v_tr_16, .int v_tr_17, .int v_tr_18, .int v_tr_19])), (a9, .inl (cJ, 3, .inr (.inl g_tr_said))), (a10, .inl (cJ, 3, .inr (.inl g_tr_lies))), (a8, .inl (cJ, 3, .inr (.inl f2)))] → va_S A s.heap H locs → lv_has ls 2 [(0, .ref a0), (1, .int x1)] → W p l e ({ frames := 0, cells := 0, slots := 0, locals := 0 } : Room) s m args below meth c H locs 0 0 Qm (F0 m 2 ls []) := by
    intro n
    induction n with
    | zero => intro x1 f2 H locs ls hv hm; omega
    | succ n ih =>
      intro x1 f2 H locs ls hv hm hP hD hS hl
      refine lv_iload_n hx hb dX6_takeAll_2 rfl (lv_at hl 1 rfl) ?_
      refine lv_iconst (v := 3) hx hb dX6_takeAll_3 (by decide) ?_
      refine lv_icmp_ge (tgt := 32) hx hb dX6_takeAll_4 (by decide) (fun c3 => ?_) (fun c3 => ?_)
      · have dc3 : 3 ≤ x1.toInt := (fa_le _ _).mp c3
        rw [← hQm]
        exact k_vret hC hr hlk hK hP hD hS f2 [0, 1, 2, 3] rfl (by decide +kernel) trivial (Nat.le_of_ble_eq_true rfl) (Nat.le_of_ble_eq_true rfl) dX6_takeAll_32
      · have dc3 : x1.toInt < 3 := fa_nle c3
        refine lv_aload_n hx hb dX6_takeAll_7 rfl (lv_at hl 0 rfl) ?_
        refine k_get hC hK hP iX6 0 12 wf_X6_50 rfl (by decide) rfl rfl dX6_takeAll_8 ?_
        refine lv_iload_n hx hb dX6_takeAll_11 rfl (lv_at hl 1 rfl) ?_
        refine lv_aload_n hx hb dX6_takeAll_12 rfl (lv_at hl 0 rfl) ?_
        refine k_get hC hK hP iX6 0 13 wf_X6_53 rfl (by decide) rfl rfl dX6_takeAll_13 ?_
        refine lv_iload_n hx hb dX6_takeAll_16 rfl (lv_at hl 1 rfl) ?_
        refine t_lald hC hK hP 1 rfl (by omega) (by omega) dX6_takeAll_17 (fun y4 => ?_)
        refine lv_aload_n hx hb dX6_takeAll_18 rfl (lv_at hl 0 rfl) ?_
        refine k_get hC hK hP iX6 0 14 wf_X6_56 rfl (by decide) rfl rfl dX6_takeAll_19 ?_
        refine lv_iload_n hx hb dX6_takeAll_22 rfl (lv_at hl 1 rfl) ?_
        refine t_lald hC hK hP 2 rfl (by omega) (by omega) dX6_takeAll_23 (fun y5 => ?_)
        refine lv_lor hx hb dX6_takeAll_24 ?_
        refine t_l (fun y6 => ?_)
        refine t_last hC hK hP hD hS 3 rfl (by omega) (by omega) dX6_takeAll_25 (fun f7 H locs hP hD hS => ?_)
        have hP : va_P G cl [(a0, .inr (6, [.ref a1, .ref a2, .ref a3, .int v_tr_3, .ref a4, .ref a5, .int v_tr_6, .int v_tr_7, .int v_tr_8, .ref a6, .int v_tr_10, .ref a7, .ref a8, .ref a9, .ref a10, .int v_tr_15, .int v_tr_16, .int v_tr_17, .int v_tr_18, .int v_tr_19])), (a9, .inl (cJ, 3, .inr (.inl g_tr_said))), (a10, .inl (cJ, 3, .inr (.inl g_tr_lies))), (a8, .inl (cJ, 3, .inr (.inl f7)))] H := hP
        have hD : va_D A [(a0, .inr (6, [.ref a1, .ref a2, .ref a3, .int v_tr_3, .ref a4, .ref a5, .int v_tr_6, .int v_tr_7, .int v_tr_8, .ref a6, .int v_tr_10, .ref a7, .ref a8, .ref a9, .ref a10, .int v_tr_15, .int v_tr_16, .int v_tr_17, .int v_tr_18, .int v_tr_19])), (a9, .inl (cJ, 3, .inr (.inl g_tr_said))), (a10, .inl (cJ, 3, .inr (.inl g_tr_lies))), (a8, .inl (cJ, 3, .inr (.inl f7)))] := hD
        obtain ⟨z8, ez8⟩ : ∃ q : Int32, q = x1 + Int32.ofInt 1 := ⟨_, rfl⟩
        have tz8 : z8.toInt = x1.toInt + 1 := by rw [ez8]; exact add_i (y := 1) (by have p_ := i_lo x1; show _ ≤ _ + (1 : Int); omega) (by have q_ := i_hi x1; show _ + (1 : Int) ≤ _; omega)
        refine lv_iinc (v := z8) (lv' := [(1, .int z8), (0, .ref a0)]) hx hb dX6_takeAll_26 hl (k := 1) rfl ez8.symm (by decide) rfl (fun ls hl => ?_)
        refine lv_goto (tgt := 2) hx hb dX6_takeAll_29 (by decide) ?_
        exact ih  z8 f7 H locs ls (by omega) (by omega) (hP.subm [0, 1, 2, 3] rfl) (hD.sub [0, 1, 2, 3] (by decide +kernel) rfl) hS (lv_sub hl [1, 0] rfl)
  have l_l9 : (0 : Int32).toInt = 0 := rfl
  exact L_2 4 0 g_tr_part H locs ls (by omega) (by omega) (hP.subm [0, 1, 2, 3] rfl) (hD.sub [0, 1, 2, 3] (by decide +kernel) rfl) hS (lv_sub hl [1, 0] rfl)
theorem dX6_seenAt_0 : decode cX6_seenAt 0 = .ok (.iload_n 0, 1) := by decide +kernel
theorem dX6_seenAt_1 : decode cX6_seenAt 1 = .ok (.iconst 3, 1) := by decide +kernel
theorem dX6_seenAt_2 : decode cX6_seenAt 2 = .ok (.imul, 1) := by decide +kernel
theorem dX6_seenAt_3 : decode cX6_seenAt 3 = .ok (.iload_n 1, 1) := by decide +kernel
theorem dX6_seenAt_4 : decode cX6_seenAt 4 = .ok (.iadd, 1) := by decide +kernel
theorem dX6_seenAt_5 : decode cX6_seenAt 5 = .ok (.iconst 3, 1) := by decide +kernel
theorem dX6_seenAt_6 : decode cX6_seenAt 6 = .ok (.imul, 1) := by decide +kernel
theorem dX6_seenAt_7 : decode cX6_seenAt 7 = .ok (.ireturn, 1) := by decide +kernel
set_option maxHeartbeats 4000000 in
set_option maxRecDepth 100000 in
theorem c107_X6_seenAt (l : Launch) (G : va_G) (cI cJ cB cZ : ClassId) (b0 : Int32) (b1 : Int32) (hv_0 : 0 ≤ b0.toInt) (hv_1 : b0.toInt ≤ 239) (hv_2 : 0 ≤ b1.toInt) (hv_3 : b1.toInt ≤ 2) : Con l G (TY cI cJ cB cZ) yX6_seenAt cX6_seenAt 2 (some .int) ({ frames := 0, cells := 0, slots := 0, locals := 0 } : Room) [.int b0, .int b1] [] (QI G (TY cI cJ cB cZ) (fun (r : Int32) (u : Unit) => (0 ≤ r.toInt ∧ r.toInt ≤ 2157)) (fun u : Unit => [])) := by
  refine k_met (by decide) (Nat.le_of_ble_eq_true rfl) ?_
  intro p e s m below meth c A ls hC hr hlk hnm hN hZ hK hA hP hD hS hl
  have hl : lv_has ls 2 [(0, .int b0), (1, .int b1)] := hl
  generalize hQm : MQ below _ _ s _ _ A = Qm
  generalize (List.toArray _ : Array Value) = args at hC hQm ⊢
  obtain ⟨hx, hb, hml, hown, hts⟩ := id hC
  obtain ⟨H, hH⟩ : ∃ q, q = s.heap := ⟨_, rfl⟩
  obtain ⟨locs, hlo⟩ : ∃ q : List Loc, q = [] := ⟨_, rfl⟩
  have hP : va_P G cl [] H := by rw [hH]; exact hP
  have hS : va_S A s.heap H locs := by rw [hH, hlo]; exact hS
  rw [← hlo]
  rw [← hH]
  refine lv_iload_n hx hb dX6_seenAt_0 rfl (lv_at hl 0 rfl) ?_
  refine lv_iconst (v := 3) hx hb dX6_seenAt_1 (by decide) ?_
  refine lv_imul hx hb dX6_seenAt_2 ?_
  refine t_i (fun q => q.toInt = b0.toInt * 3) (mul_i (by show (-2147483648 : Int) ≤ b0.toInt * 3; omega) (by show b0.toInt * 3 ≤ (2147483647 : Int); omega)) (fun z1 tz1 => ?_)
  refine lv_iload_n hx hb dX6_seenAt_3 rfl (lv_at hl 1 rfl) ?_
  refine lv_iadd hx hb dX6_seenAt_4 ?_
  refine t_i (fun q => q.toInt = z1.toInt + b1.toInt) (add_i (by show (-2147483648 : Int) ≤ z1.toInt + b1.toInt; omega) (by show z1.toInt + b1.toInt ≤ (2147483647 : Int); omega)) (fun z2 tz2 => ?_)
  refine lv_iconst (v := 3) hx hb dX6_seenAt_5 (by decide) ?_
  refine lv_imul hx hb dX6_seenAt_6 ?_
  refine t_i (fun q => q.toInt = z2.toInt * 3) (mul_i (by show (-2147483648 : Int) ≤ z2.toInt * 3; omega) (by show z2.toInt * 3 ≤ (2147483647 : Int); omega)) (fun z3 tz3 => ?_)
  rw [← hQm]
  exact k_iret hC hr hlk hK hP hD hS () [] rfl (by decide +kernel) (show 0 ≤ z3.toInt ∧ z3.toInt ≤ 2157 from by omega) (Nat.le_of_ble_eq_true rfl) (Nat.le_of_ble_eq_true rfl) dX6_seenAt_7
theorem dX6_takeShown_0 : decode cX6_takeShown 0 = .ok (.iconst 0, 1) := by decide +kernel
theorem dX6_takeShown_1 : decode cX6_takeShown 1 = .ok (.istore_n 3, 1) := by decide +kernel
theorem dX6_takeShown_2 : decode cX6_takeShown 2 = .ok (.iload_n 3, 1) := by decide +kernel
theorem dX6_takeShown_3 : decode cX6_takeShown 3 = .ok (.iconst 3, 1) := by decide +kernel
theorem dX6_takeShown_4 : decode cX6_takeShown 4 = .ok (.if_icmp .ge 27, 3) := by decide +kernel
theorem dX6_takeShown_31 : decode cX6_takeShown 31 = .ok (.return_, 1) := by decide +kernel
theorem dX6_takeShown_7 : decode cX6_takeShown 7 = .ok (.aload_n 0, 1) := by decide +kernel
theorem dX6_takeShown_8 : decode cX6_takeShown 8 = .ok (.getfield 50, 3) := by decide +kernel
theorem dX6_takeShown_11 : decode cX6_takeShown 11 = .ok (.iload_n 3, 1) := by decide +kernel
theorem dX6_takeShown_12 : decode cX6_takeShown 12 = .ok (.aload_n 0, 1) := by decide +kernel
theorem dX6_takeShown_13 : decode cX6_takeShown 13 = .ok (.getfield 46, 3) := by decide +kernel
set_option maxRecDepth 100000 in
theorem wf_X6_46 : Cond.fieldLink RX6 46 "StoneTrust$Trials" "seen" "[J" ∈ gw := gm (List.mem_of_getElem? (i := 465) (by decide +kernel)) rfl
theorem dX6_takeShown_16 : decode cX6_takeShown 16 = .ok (.iload_n 1, 1) := by decide +kernel
theorem dX6_takeShown_17 : decode cX6_takeShown 17 = .ok (.iload_n 2, 1) := by decide +kernel
theorem dX6_takeShown_18 : decode cX6_takeShown 18 = .ok (.invokestatic 175, 3) := by decide +kernel
set_option maxRecDepth 100000 in
theorem wm_X6_175 : Cond.methodLink RX6 175 yX6_seenAt ∈ gw := gm (List.mem_of_getElem? (i := 1103) (by decide +kernel)) rfl
set_option maxRecDepth 100000 in
theorem mi_X6_seenAt : MI yX6_seenAt cX6_seenAt 2 (some .int) 2 := ⟨gm (List.mem_of_getElem? (i := 1105) rfl) rfl, gm (List.mem_of_getElem? (i := 122) (by decide +kernel)) rfl, by decide, by decide, by decide +kernel⟩
set_option maxRecDepth 100000 in
theorem st_X6_seenAt : Cond.static yX6_seenAt ∈ gw := gm (List.mem_of_getElem? (i := 1104) (by decide +kernel)) rfl
theorem dX6_takeShown_21 : decode cX6_takeShown 21 = .ok (.iload_n 3, 1) := by decide +kernel
theorem dX6_takeShown_22 : decode cX6_takeShown 22 = .ok (.iadd, 1) := by decide +kernel
theorem dX6_takeShown_23 : decode cX6_takeShown 23 = .ok (.laload, 1) := by decide +kernel
theorem dX6_takeShown_24 : decode cX6_takeShown 24 = .ok (.lastore, 1) := by decide +kernel
theorem dX6_takeShown_25 : decode cX6_takeShown 25 = .ok (.iinc 3 1, 3) := by decide +kernel
theorem dX6_takeShown_28 : decode cX6_takeShown 28 = .ok (.goto (-26), 3) := by decide +kernel
set_option maxHeartbeats 4000000 in
set_option maxRecDepth 100000 in
theorem c108_X6_takeShown (l : Launch) (G : va_G) (cI cJ cB cZ : ClassId) (a0 a1 a2 a3 a4 a5 a6 a7 a8 a9 a10 : Nat) (b1 : Int32) (b2 : Int32) (v_tr_3 : Int32) (v_tr_6 : Int32) (v_tr_7 : Int32) (v_tr_8 : Int32) (v_tr_10 : Int32) (v_tr_15 : Int32) (v_tr_16 : Int32) (v_tr_17 : Int32) (v_tr_18 : Int32) (v_tr_19 : Int32) (g_tr_seen : Nat → Int64) (g_tr_part : Nat → Int64) (hv_0 : 0 ≤ b1.toInt) (hv_1 : b1.toInt ≤ 239) (hv_2 : 0 ≤ b2.toInt) (hv_3 : b2.toInt ≤ 2) (hv_4 : 0 ≤ v_tr_3.toInt) (hv_5 : v_tr_3.toInt ≤ 729) (hv_6 : 0 ≤ v_tr_10.toInt) (hv_7 : v_tr_10.toInt ≤ 240) (hv_8 : 0 ≤ v_tr_15.toInt) (hv_9 : v_tr_15.toInt ≤ 3) : Con l G (TY cI cJ cB cZ) yX6_takeShown cX6_takeShown 4 none ({ frames := 1, cells := 0, slots := 0, locals := 21 } : Room) [.ref a0, .int b1, .int b2] [(a0, .inr (6, [.ref a1, .ref a2, .ref a3, .int v_tr_3, .ref a4, .ref a5, .int v_tr_6, .int v_tr_7, .int v_tr_8, .ref a6, .int v_tr_10, .ref a7, .ref a8, .ref a9, .ref a10, .int v_tr_15, .int v_tr_16, .int v_tr_17, .int v_tr_18, .int v_tr_19])), (a7, .inl (cJ, 2160, .inr (.inl g_tr_seen))), (a8, .inl (cJ, 3, .inr (.inl g_tr_part)))] (QV G (TY cI cJ cB cZ) (fun u : (Nat → Int64) => (True)) (fun u : (Nat → Int64) => [(a0, .inr (6, [.ref a1, .ref a2, .ref a3, .int v_tr_3, .ref a4, .ref a5, .int v_tr_6, .int v_tr_7, .int v_tr_8, .ref a6, .int v_tr_10, .ref a7, .ref a8, .ref a9, .ref a10, .int v_tr_15, .int v_tr_16, .int v_tr_17, .int v_tr_18, .int v_tr_19])), (a7, .inl (cJ, 2160, .inr (.inl g_tr_seen))), (a8, .inl (cJ, 3, .inr (.inl u)))])) := by
  refine k_met (by decide) (Nat.le_of_ble_eq_true rfl) ?_
  intro p e s m below meth c A ls hC hr hlk hnm hN hZ hK hA hP hD hS hl
  have hl : lv_has ls 4 [(0, .ref a0), (1, .int b1), (2, .int b2)] := hl
  generalize hQm : MQ below _ _ s _ _ A = Qm
  generalize (List.toArray _ : Array Value) = args at hC hQm ⊢
  obtain ⟨hx, hb, hml, hown, hts⟩ := id hC
  obtain ⟨H, hH⟩ : ∃ q, q = s.heap := ⟨_, rfl⟩
  obtain ⟨locs, hlo⟩ : ∃ q : List Loc, q = [] := ⟨_, rfl⟩
  have hP : va_P G cl [(a0, .inr (6, [.ref a1, .ref a2, .ref a3, .int v_tr_3, .ref a4, .ref a5, .int v_tr_6, .int v_tr_7, .int v_tr_8, .ref a6, .int v_tr_10, .ref a7, .ref a8, .ref a9, .ref a10, .int v_tr_15, .int v_tr_16, .int v_tr_17, .int v_tr_18, .int v_tr_19])), (a7, .inl (cJ, 2160, .inr (.inl g_tr_seen))), (a8, .inl (cJ, 3, .inr (.inl g_tr_part)))] H := by rw [hH]; exact hP
  have hS : va_S A s.heap H locs := by rw [hH, hlo]; exact hS
  rw [← hlo]
  rw [← hH]
  refine lv_iconst (v := 0) hx hb dX6_takeShown_0 (by decide) ?_
  refine lv_istore_n (lv' := [(3, .int 0), (0, .ref a0), (1, .int b1), (2, .int b2)]) hx hb dX6_takeShown_1 rfl hl (by decide) rfl (fun ls hl => ?_)
  have L_2 : ∀ (n : Nat) (x1 : Int32) (f2 : Nat → Int64) (H : Heap) (locs : List Loc) (ls : Array Slot), (0 ≤ x1.toInt ∧ x1.toInt ≤ 3) → 3 - x1.toInt < (n : Int) → va_P G cl [(a0, .inr (6, [.ref a1, .ref a2, .ref a3, .int v_tr_3, .ref a4, .ref a5, .int v_tr_6, .int v_tr_7, .int v_tr_8, .ref a6, .int v_tr_10, .ref a7, .ref a8, .ref a9, .ref a10, .int v_tr_15, .int v_tr_16, .int v_tr_17, .int v_tr_18, .int v_tr_19])), (a7, .inl (cJ, 2160, .inr (.inl g_tr_seen))), (a8, .inl (cJ, 3, .inr (.inl f2)))] H → va_D A [(a0, .inr (6, [.ref a1, .ref a2, .ref a3, .int v_tr_3, .ref a4, .ref a5, .int v_tr_6, .int v_tr_7, .int v_tr_8, .ref a6, .int v_tr_10, .ref a7, .ref a8, .ref a9, .ref a10, .int v_tr_15, .int v_tr_16, .int v_tr_17, .int v_tr_18, .int v_tr_19])), (a7, .inl (cJ, 2160, .inr (.inl g_tr_seen))), (a8, .inl (cJ, 3, .inr (.inl f2)))] → va_S A s.heap H locs → lv_has ls 4 [(0, .ref a0), (1, .int b1), (2, .int b2), (3, .int x1)] → W p l e ({ frames := 1, cells := 0, slots := 0, locals := 21 } : Room) s m args below meth c H locs 0 0 Qm (F0 m 2 ls []) := by
    intro n
    induction n with
    | zero => intro x1 f2 H locs ls hv hm; omega
    | succ n ih =>
      intro x1 f2 H locs ls hv hm hP hD hS hl
      refine lv_iload_n hx hb dX6_takeShown_2 rfl (lv_at hl 3 rfl) ?_
      refine lv_iconst (v := 3) hx hb dX6_takeShown_3 (by decide) ?_
      refine lv_icmp_ge (tgt := 31) hx hb dX6_takeShown_4 (by decide) (fun c3 => ?_) (fun c3 => ?_)
      · have dc3 : 3 ≤ x1.toInt := (fa_le _ _).mp c3
        rw [← hQm]
        exact k_vret hC hr hlk hK hP hD hS f2 [0, 1, 2] rfl (by decide +kernel) trivial (Nat.le_of_ble_eq_true rfl) (Nat.le_of_ble_eq_true rfl) dX6_takeShown_31
      · have dc3 : x1.toInt < 3 := fa_nle c3
        refine lv_aload_n hx hb dX6_takeShown_7 rfl (lv_at hl 0 rfl) ?_
        refine k_get hC hK hP iX6 0 12 wf_X6_50 rfl (by decide) rfl rfl dX6_takeShown_8 ?_
        refine lv_iload_n hx hb dX6_takeShown_11 rfl (lv_at hl 3 rfl) ?_
        refine lv_aload_n hx hb dX6_takeShown_12 rfl (lv_at hl 0 rfl) ?_
        refine k_get hC hK hP iX6 0 11 wf_X6_46 rfl (by decide) rfl rfl dX6_takeShown_13 ?_
        refine lv_iload_n hx hb dX6_takeShown_16 rfl (lv_at hl 1 rfl) ?_
        refine lv_iload_n hx hb dX6_takeShown_17 rfl (lv_at hl 2 rfl) ?_
        refine k_ci (wr := [(a0, .inr (6, [.ref a1, .ref a2, .ref a3, .int v_tr_3, .ref a4, .ref a5, .int v_tr_6, .int v_tr_7, .int v_tr_8, .ref a6, .int v_tr_10, .ref a7, .ref a8, .ref a9, .ref a10, .int v_tr_15, .int v_tr_16, .int v_tr_17, .int v_tr_18, .int v_tr_19])), (a7, .inl (cJ, 2160, .inr (.inl g_tr_seen))), (a8, .inl (cJ, 3, .inr (.inl f2)))]) (k_rS hC hN hZ hS hA hK hP hD (c107_X6_seenAt l G cI cJ cB cZ b1 b2 hv_0 hv_1 hv_2 hv_3) [] rfl (by decide +kernel) mi_X6_seenAt st_X6_seenAt wm_X6_175 hl.1 rfl rfl (Nat.le_of_ble_eq_true rfl) ⟨(Nat.le_of_ble_eq_true rfl), (Nat.le_of_ble_eq_true rfl)⟩ dX6_takeShown_18 ⟨(Nat.le_of_ble_eq_true rfl), (Nat.le_of_ble_eq_true rfl)⟩) hP hD hS hA [] [0, 1, 2] rfl rfl (by decide +kernel) (by decide +kernel) (fun r4 u4 H locs hp hP hD hS => ?_)
        have hp : (0 ≤ r4.toInt ∧ r4.toInt ≤ 2157) := hp
        have hP : va_P G cl [(a0, .inr (6, [.ref a1, .ref a2, .ref a3, .int v_tr_3, .ref a4, .ref a5, .int v_tr_6, .int v_tr_7, .int v_tr_8, .ref a6, .int v_tr_10, .ref a7, .ref a8, .ref a9, .ref a10, .int v_tr_15, .int v_tr_16, .int v_tr_17, .int v_tr_18, .int v_tr_19])), (a7, .inl (cJ, 2160, .inr (.inl g_tr_seen))), (a8, .inl (cJ, 3, .inr (.inl f2)))] H := hP
        have hD : va_D A [(a0, .inr (6, [.ref a1, .ref a2, .ref a3, .int v_tr_3, .ref a4, .ref a5, .int v_tr_6, .int v_tr_7, .int v_tr_8, .ref a6, .int v_tr_10, .ref a7, .ref a8, .ref a9, .ref a10, .int v_tr_15, .int v_tr_16, .int v_tr_17, .int v_tr_18, .int v_tr_19])), (a7, .inl (cJ, 2160, .inr (.inl g_tr_seen))), (a8, .inl (cJ, 3, .inr (.inl f2)))] := hD
        have hq4 := hp
        refine lv_iload_n hx hb dX6_takeShown_21 rfl (lv_at hl 3 rfl) ?_
        refine lv_iadd hx hb dX6_takeShown_22 ?_
        refine t_i (fun q => q.toInt = r4.toInt + x1.toInt) (add_i (by show (-2147483648 : Int) ≤ r4.toInt + x1.toInt; omega) (by show r4.toInt + x1.toInt ≤ (2147483647 : Int); omega)) (fun z5 tz5 => ?_)
        refine t_lald hC hK hP 1 rfl (by omega) (by omega) dX6_takeShown_23 (fun y6 => ?_)
        refine t_last hC hK hP hD hS 2 rfl (by omega) (by omega) dX6_takeShown_24 (fun f7 H locs hP hD hS => ?_)
        have hP : va_P G cl [(a0, .inr (6, [.ref a1, .ref a2, .ref a3, .int v_tr_3, .ref a4, .ref a5, .int v_tr_6, .int v_tr_7, .int v_tr_8, .ref a6, .int v_tr_10, .ref a7, .ref a8, .ref a9, .ref a10, .int v_tr_15, .int v_tr_16, .int v_tr_17, .int v_tr_18, .int v_tr_19])), (a7, .inl (cJ, 2160, .inr (.inl g_tr_seen))), (a8, .inl (cJ, 3, .inr (.inl f7)))] H := hP
        have hD : va_D A [(a0, .inr (6, [.ref a1, .ref a2, .ref a3, .int v_tr_3, .ref a4, .ref a5, .int v_tr_6, .int v_tr_7, .int v_tr_8, .ref a6, .int v_tr_10, .ref a7, .ref a8, .ref a9, .ref a10, .int v_tr_15, .int v_tr_16, .int v_tr_17, .int v_tr_18, .int v_tr_19])), (a7, .inl (cJ, 2160, .inr (.inl g_tr_seen))), (a8, .inl (cJ, 3, .inr (.inl f7)))] := hD
        obtain ⟨z8, ez8⟩ : ∃ q : Int32, q = x1 + Int32.ofInt 1 := ⟨_, rfl⟩
        have tz8 : z8.toInt = x1.toInt + 1 := by rw [ez8]; exact add_i (y := 1) (by have p_ := i_lo x1; show _ ≤ _ + (1 : Int); omega) (by have q_ := i_hi x1; show _ + (1 : Int) ≤ _; omega)
        refine lv_iinc (v := z8) (lv' := [(3, .int z8), (0, .ref a0), (1, .int b1), (2, .int b2)]) hx hb dX6_takeShown_25 hl (k := 3) rfl ez8.symm (by decide) rfl (fun ls hl => ?_)
        refine lv_goto (tgt := 2) hx hb dX6_takeShown_28 (by decide) ?_
        exact ih  z8 f7 H locs ls (by omega) (by omega) (hP.subm [0, 1, 2] rfl) (hD.sub [0, 1, 2] (by decide +kernel) rfl) hS (lv_sub hl [1, 2, 3, 0] rfl)
  have l_l9 : (0 : Int32).toInt = 0 := rfl
  exact L_2 4 0 g_tr_part H locs ls (by omega) (by omega) (hP.subm [0, 1, 2] rfl) (hD.sub [0, 1, 2] (by decide +kernel) rfl) hS (lv_sub hl [1, 2, 3, 0] rfl)
theorem dX6_isMixed_0 : decode cX6_isMixed 0 = .ok (.lconst 0, 1) := by decide +kernel
theorem dX6_isMixed_1 : decode cX6_isMixed 1 = .ok (.lstore_n 1, 1) := by decide +kernel
theorem dX6_isMixed_2 : decode cX6_isMixed 2 = .ok (.lconst 0, 1) := by decide +kernel
theorem dX6_isMixed_3 : decode cX6_isMixed 3 = .ok (.lstore_n 3, 1) := by decide +kernel
theorem dX6_isMixed_4 : decode cX6_isMixed 4 = .ok (.iconst 0, 1) := by decide +kernel
theorem dX6_isMixed_5 : decode cX6_isMixed 5 = .ok (.istore 5, 2) := by decide +kernel
theorem dX6_isMixed_7 : decode cX6_isMixed 7 = .ok (.iload 5, 2) := by decide +kernel
theorem dX6_isMixed_9 : decode cX6_isMixed 9 = .ok (.aload_n 0, 1) := by decide +kernel
theorem dX6_isMixed_10 : decode cX6_isMixed 10 = .ok (.getfield 59, 3) := by decide +kernel
set_option maxRecDepth 100000 in
theorem wf_X6_59 : Cond.fieldLink RX6 59 "StoneTrust$Trials" "words" "I" ∈ gw := gm (List.mem_of_getElem? (i := 469) (by decide +kernel)) rfl
theorem dX6_isMixed_13 : decode cX6_isMixed 13 = .ok (.if_icmp .ge 45, 3) := by decide +kernel
theorem dX6_isMixed_58 : decode cX6_isMixed 58 = .ok (.lload_n 1, 1) := by decide +kernel
theorem dX6_isMixed_59 : decode cX6_isMixed 59 = .ok (.lconst 0, 1) := by decide +kernel
theorem dX6_isMixed_60 : decode cX6_isMixed 60 = .ok (.lcmp, 1) := by decide +kernel
theorem dX6_isMixed_61 : decode cX6_isMixed 61 = .ok (.ifCond .eq 13, 3) := by decide +kernel
theorem dX6_isMixed_74 : decode cX6_isMixed 74 = .ok (.iconst 0, 1) := by decide +kernel
theorem dX6_isMixed_75 : decode cX6_isMixed 75 = .ok (.ireturn, 1) := by decide +kernel
theorem dX6_isMixed_64 : decode cX6_isMixed 64 = .ok (.lload_n 3, 1) := by decide +kernel
theorem dX6_isMixed_65 : decode cX6_isMixed 65 = .ok (.lconst 0, 1) := by decide +kernel
theorem dX6_isMixed_66 : decode cX6_isMixed 66 = .ok (.lcmp, 1) := by decide +kernel
theorem dX6_isMixed_67 : decode cX6_isMixed 67 = .ok (.ifCond .eq 7, 3) := by decide +kernel
theorem dX6_isMixed_70 : decode cX6_isMixed 70 = .ok (.iconst 1, 1) := by decide +kernel
theorem dX6_isMixed_71 : decode cX6_isMixed 71 = .ok (.goto 4, 3) := by decide +kernel
theorem dX6_isMixed_16 : decode cX6_isMixed 16 = .ok (.lload_n 1, 1) := by decide +kernel
theorem dX6_isMixed_17 : decode cX6_isMixed 17 = .ok (.aload_n 0, 1) := by decide +kernel
theorem dX6_isMixed_18 : decode cX6_isMixed 18 = .ok (.getfield 50, 3) := by decide +kernel
theorem dX6_isMixed_21 : decode cX6_isMixed 21 = .ok (.iload 5, 2) := by decide +kernel
theorem dX6_isMixed_23 : decode cX6_isMixed 23 = .ok (.laload, 1) := by decide +kernel
theorem dX6_isMixed_24 : decode cX6_isMixed 24 = .ok (.aload_n 0, 1) := by decide +kernel
theorem dX6_isMixed_25 : decode cX6_isMixed 25 = .ok (.getfield 53, 3) := by decide +kernel
theorem dX6_isMixed_28 : decode cX6_isMixed 28 = .ok (.iload 5, 2) := by decide +kernel
theorem dX6_isMixed_30 : decode cX6_isMixed 30 = .ok (.laload, 1) := by decide +kernel
theorem dX6_isMixed_31 : decode cX6_isMixed 31 = .ok (.land, 1) := by decide +kernel
theorem dX6_isMixed_32 : decode cX6_isMixed 32 = .ok (.lor, 1) := by decide +kernel
theorem dX6_isMixed_33 : decode cX6_isMixed 33 = .ok (.lstore_n 1, 1) := by decide +kernel
theorem dX6_isMixed_34 : decode cX6_isMixed 34 = .ok (.lload_n 3, 1) := by decide +kernel
theorem dX6_isMixed_35 : decode cX6_isMixed 35 = .ok (.aload_n 0, 1) := by decide +kernel
theorem dX6_isMixed_36 : decode cX6_isMixed 36 = .ok (.getfield 50, 3) := by decide +kernel
theorem dX6_isMixed_39 : decode cX6_isMixed 39 = .ok (.iload 5, 2) := by decide +kernel
theorem dX6_isMixed_41 : decode cX6_isMixed 41 = .ok (.laload, 1) := by decide +kernel
theorem dX6_isMixed_42 : decode cX6_isMixed 42 = .ok (.aload_n 0, 1) := by decide +kernel
theorem dX6_isMixed_43 : decode cX6_isMixed 43 = .ok (.getfield 56, 3) := by decide +kernel
theorem dX6_isMixed_46 : decode cX6_isMixed 46 = .ok (.iload 5, 2) := by decide +kernel
theorem dX6_isMixed_48 : decode cX6_isMixed 48 = .ok (.laload, 1) := by decide +kernel
theorem dX6_isMixed_49 : decode cX6_isMixed 49 = .ok (.land, 1) := by decide +kernel
theorem dX6_isMixed_50 : decode cX6_isMixed 50 = .ok (.lor, 1) := by decide +kernel
theorem dX6_isMixed_51 : decode cX6_isMixed 51 = .ok (.lstore_n 3, 1) := by decide +kernel
theorem dX6_isMixed_52 : decode cX6_isMixed 52 = .ok (.iinc 5 1, 3) := by decide +kernel
theorem dX6_isMixed_55 : decode cX6_isMixed 55 = .ok (.goto (-48), 3) := by decide +kernel
set_option maxHeartbeats 4000000 in
set_option maxRecDepth 100000 in
theorem c109_X6_isMixed (l : Launch) (G : va_G) (cI cJ cB cZ : ClassId) (a0 a1 a2 a3 a4 a5 a6 a7 a8 a9 a10 : Nat) (v_tr_3 : Int32) (v_tr_6 : Int32) (v_tr_7 : Int32) (v_tr_8 : Int32) (v_tr_10 : Int32) (v_tr_15 : Int32) (v_tr_16 : Int32) (v_tr_17 : Int32) (v_tr_18 : Int32) (v_tr_19 : Int32) (g_tr_part : Nat → Int64) (g_tr_said : Nat → Int64) (g_tr_lies : Nat → Int64) (hv_0 : 0 ≤ v_tr_3.toInt) (hv_1 : v_tr_3.toInt ≤ 729) (hv_2 : 0 ≤ v_tr_10.toInt) (hv_3 : v_tr_10.toInt ≤ 240) (hv_4 : 0 ≤ v_tr_15.toInt) (hv_5 : v_tr_15.toInt ≤ 3) : Con l G (TY cI cJ cB cZ) yX6_isMixed cX6_isMixed 6 (some .boolean) ({ frames := 0, cells := 0, slots := 0, locals := 0 } : Room) [.ref a0] [(a0, .inr (6, [.ref a1, .ref a2, .ref a3, .int v_tr_3, .ref a4, .ref a5, .int v_tr_6, .int v_tr_7, .int v_tr_8, .ref a6, .int v_tr_10, .ref a7, .ref a8, .ref a9, .ref a10, .int v_tr_15, .int v_tr_16, .int v_tr_17, .int v_tr_18, .int v_tr_19])), (a8, .inl (cJ, 3, .inr (.inl g_tr_part))), (a9, .inl (cJ, 3, .inr (.inl g_tr_said))), (a10, .inl (cJ, 3, .inr (.inl g_tr_lies)))] (QI G (TY cI cJ cB cZ) (fun (r : Int32) (u : Unit) => (0 ≤ r.toInt ∧ r.toInt ≤ 1)) (fun u : Unit => [(a0, .inr (6, [.ref a1, .ref a2, .ref a3, .int v_tr_3, .ref a4, .ref a5, .int v_tr_6, .int v_tr_7, .int v_tr_8, .ref a6, .int v_tr_10, .ref a7, .ref a8, .ref a9, .ref a10, .int v_tr_15, .int v_tr_16, .int v_tr_17, .int v_tr_18, .int v_tr_19])), (a8, .inl (cJ, 3, .inr (.inl g_tr_part))), (a9, .inl (cJ, 3, .inr (.inl g_tr_said))), (a10, .inl (cJ, 3, .inr (.inl g_tr_lies)))])) := by
  refine k_met (by decide) (Nat.le_of_ble_eq_true rfl) ?_
  intro p e s m below meth c A ls hC hr hlk hnm hN hZ hK hA hP hD hS hl
  have hl : lv_has ls 6 [(0, .ref a0)] := hl
  generalize hQm : MQ below _ _ s _ _ A = Qm
  generalize (List.toArray _ : Array Value) = args at hC hQm ⊢
  obtain ⟨hx, hb, hml, hown, hts⟩ := id hC
  obtain ⟨H, hH⟩ : ∃ q, q = s.heap := ⟨_, rfl⟩
  obtain ⟨locs, hlo⟩ : ∃ q : List Loc, q = [] := ⟨_, rfl⟩
  have hP : va_P G cl [(a0, .inr (6, [.ref a1, .ref a2, .ref a3, .int v_tr_3, .ref a4, .ref a5, .int v_tr_6, .int v_tr_7, .int v_tr_8, .ref a6, .int v_tr_10, .ref a7, .ref a8, .ref a9, .ref a10, .int v_tr_15, .int v_tr_16, .int v_tr_17, .int v_tr_18, .int v_tr_19])), (a8, .inl (cJ, 3, .inr (.inl g_tr_part))), (a9, .inl (cJ, 3, .inr (.inl g_tr_said))), (a10, .inl (cJ, 3, .inr (.inl g_tr_lies)))] H := by rw [hH]; exact hP
  have hS : va_S A s.heap H locs := by rw [hH, hlo]; exact hS
  rw [← hlo]
  rw [← hH]
  refine lv_lconst (v := 0) hx hb dX6_isMixed_0 (by decide) ?_
  refine lv_lstore_n (lv' := [(1, .long 0), (0, .ref a0)]) hx hb dX6_isMixed_1 rfl hl (by decide) rfl (fun ls hl => ?_)
  refine lv_lconst (v := 0) hx hb dX6_isMixed_2 (by decide) ?_
  refine lv_lstore_n (lv' := [(3, .long 0), (1, .long 0), (0, .ref a0)]) hx hb dX6_isMixed_3 rfl hl (by decide) rfl (fun ls hl => ?_)
  refine lv_iconst (v := 0) hx hb dX6_isMixed_4 (by decide) ?_
  refine lv_istore (lv' := [(5, .int 0), (3, .long 0), (1, .long 0), (0, .ref a0)]) hx hb dX6_isMixed_5 hl (by decide) rfl (fun ls hl => ?_)
  have L_7 : ∀ (n : Nat) (x1 : Int32) (y2 : Int64) (y3 : Int64) (H : Heap) (locs : List Loc) (ls : Array Slot), (0 ≤ x1.toInt ∧ x1.toInt ≤ 3) → 3 - x1.toInt < (n : Int) → va_P G cl [(a0, .inr (6, [.ref a1, .ref a2, .ref a3, .int v_tr_3, .ref a4, .ref a5, .int v_tr_6, .int v_tr_7, .int v_tr_8, .ref a6, .int v_tr_10, .ref a7, .ref a8, .ref a9, .ref a10, .int v_tr_15, .int v_tr_16, .int v_tr_17, .int v_tr_18, .int v_tr_19])), (a8, .inl (cJ, 3, .inr (.inl g_tr_part))), (a9, .inl (cJ, 3, .inr (.inl g_tr_said))), (a10, .inl (cJ, 3, .inr (.inl g_tr_lies)))] H → va_D A [(a0, .inr (6, [.ref a1, .ref a2, .ref a3, .int v_tr_3, .ref a4, .ref a5, .int v_tr_6, .int v_tr_7, .int v_tr_8, .ref a6, .int v_tr_10, .ref a7, .ref a8, .ref a9, .ref a10, .int v_tr_15, .int v_tr_16, .int v_tr_17, .int v_tr_18, .int v_tr_19])), (a8, .inl (cJ, 3, .inr (.inl g_tr_part))), (a9, .inl (cJ, 3, .inr (.inl g_tr_said))), (a10, .inl (cJ, 3, .inr (.inl g_tr_lies)))] → va_S A s.heap H locs → lv_has ls 6 [(0, .ref a0), (1, .long y3), (3, .long y2), (5, .int x1)] → W p l e ({ frames := 0, cells := 0, slots := 0, locals := 0 } : Room) s m args below meth c H locs 0 0 Qm (F0 m 7 ls []) := by
    intro n
    induction n with
    | zero => intro x1 y2 y3 H locs ls hv hm; omega
    | succ n ih =>
      intro x1 y2 y3 H locs ls hv hm hP hD hS hl
      refine lv_iload hx hb dX6_isMixed_7 (lv_at hl 3 rfl) ?_
      refine lv_aload_n hx hb dX6_isMixed_9 rfl (lv_at hl 0 rfl) ?_
      refine k_get hC hK hP iX6 0 15 wf_X6_59 rfl (by decide) rfl rfl dX6_isMixed_10 ?_
      refine lv_icmp_ge (tgt := 58) hx hb dX6_isMixed_13 (by decide) (fun c4 => ?_) (fun c4 => ?_)
      · have dc4 : v_tr_15.toInt ≤ x1.toInt := (fa_le _ _).mp c4
        refine lv_lload_n hx hb dX6_isMixed_58 rfl (lv_at hl 1 rfl) ?_
        refine lv_lconst (v := 0) hx hb dX6_isMixed_59 (by decide) ?_
        refine W.lcmp hx hb dX6_isMixed_60 ?_
        refine lv_topi (fun z5 _ => ?_)
        refine lv_if_eq (tgt := 74) hx hb dX6_isMixed_61 (by decide) (fun c6 => ?_) (fun c6 => ?_)
        · have dc6 : z5.toInt = 0 := (fa_eq _ _).mp c6; have lbc6_0 := i_lo z5; have ubc6_0 := i_hi z5
          refine lv_iconst (v := 0) hx hb dX6_isMixed_74 (by decide) ?_
          have l_l7 : (0 : Int32).toInt = 0 := rfl
          rw [← hQm]
          exact k_zret hC hr hlk hK hP hD hS () [0, 1, 2, 3] rfl (by decide +kernel) rfl (show 0 ≤ (0 : Int32).toInt ∧ (0 : Int32).toInt ≤ 1 from by omega) (Nat.le_of_ble_eq_true rfl) (Nat.le_of_ble_eq_true rfl) dX6_isMixed_75
        · have dc6 : z5.toInt ≠ 0 := fa_ne c6; have lbc6_0 := i_lo z5; have ubc6_0 := i_hi z5
          refine lv_lload_n hx hb dX6_isMixed_64 rfl (lv_at hl 2 rfl) ?_
          refine lv_lconst (v := 0) hx hb dX6_isMixed_65 (by decide) ?_
          refine W.lcmp hx hb dX6_isMixed_66 ?_
          refine lv_topi (fun z8 _ => ?_)
          refine lv_if_eq (tgt := 74) hx hb dX6_isMixed_67 (by decide) (fun c9 => ?_) (fun c9 => ?_)
          · have dc9 : z8.toInt = 0 := (fa_eq _ _).mp c9; have lbc9_0 := i_lo z8; have ubc9_0 := i_hi z8
            refine lv_iconst (v := 0) hx hb dX6_isMixed_74 (by decide) ?_
            have l_l10 : (0 : Int32).toInt = 0 := rfl
            rw [← hQm]
            exact k_zret hC hr hlk hK hP hD hS () [0, 1, 2, 3] rfl (by decide +kernel) rfl (show 0 ≤ (0 : Int32).toInt ∧ (0 : Int32).toInt ≤ 1 from by omega) (Nat.le_of_ble_eq_true rfl) (Nat.le_of_ble_eq_true rfl) dX6_isMixed_75
          · have dc9 : z8.toInt ≠ 0 := fa_ne c9; have lbc9_0 := i_lo z8; have ubc9_0 := i_hi z8
            refine lv_iconst (v := 1) hx hb dX6_isMixed_70 (by decide) ?_
            refine lv_goto (tgt := 75) hx hb dX6_isMixed_71 (by decide) ?_
            have l_l11 : (1 : Int32).toInt = 1 := rfl
            rw [← hQm]
            exact k_zret hC hr hlk hK hP hD hS () [0, 1, 2, 3] rfl (by decide +kernel) rfl (show 0 ≤ (1 : Int32).toInt ∧ (1 : Int32).toInt ≤ 1 from by omega) (Nat.le_of_ble_eq_true rfl) (Nat.le_of_ble_eq_true rfl) dX6_isMixed_75
      · have dc4 : x1.toInt < v_tr_15.toInt := fa_nle c4
        refine lv_lload_n hx hb dX6_isMixed_16 rfl (lv_at hl 1 rfl) ?_
        refine lv_aload_n hx hb dX6_isMixed_17 rfl (lv_at hl 0 rfl) ?_
        refine k_get hC hK hP iX6 0 12 wf_X6_50 rfl (by decide) rfl rfl dX6_isMixed_18 ?_
        refine lv_iload hx hb dX6_isMixed_21 (lv_at hl 3 rfl) ?_
        refine t_lald hC hK hP 1 rfl (by omega) (by omega) dX6_isMixed_23 (fun y12 => ?_)
        refine lv_aload_n hx hb dX6_isMixed_24 rfl (lv_at hl 0 rfl) ?_
        refine k_get hC hK hP iX6 0 13 wf_X6_53 rfl (by decide) rfl rfl dX6_isMixed_25 ?_
        refine lv_iload hx hb dX6_isMixed_28 (lv_at hl 3 rfl) ?_
        refine t_lald hC hK hP 2 rfl (by omega) (by omega) dX6_isMixed_30 (fun y13 => ?_)
        refine lv_land hx hb dX6_isMixed_31 ?_
        refine t_l (fun y14 => ?_)
        refine lv_lor hx hb dX6_isMixed_32 ?_
        refine t_l (fun y15 => ?_)
        refine lv_lstore_n (lv' := [(1, .long y15), (0, .ref a0), (3, .long y2), (5, .int x1)]) hx hb dX6_isMixed_33 rfl hl (by decide) rfl (fun ls hl => ?_)
        refine lv_lload_n hx hb dX6_isMixed_34 rfl (lv_at hl 2 rfl) ?_
        refine lv_aload_n hx hb dX6_isMixed_35 rfl (lv_at hl 1 rfl) ?_
        refine k_get hC hK hP iX6 0 12 wf_X6_50 rfl (by decide) rfl rfl dX6_isMixed_36 ?_
        refine lv_iload hx hb dX6_isMixed_39 (lv_at hl 3 rfl) ?_
        refine t_lald hC hK hP 1 rfl (by omega) (by omega) dX6_isMixed_41 (fun y16 => ?_)
        refine lv_aload_n hx hb dX6_isMixed_42 rfl (lv_at hl 1 rfl) ?_
        refine k_get hC hK hP iX6 0 14 wf_X6_56 rfl (by decide) rfl rfl dX6_isMixed_43 ?_
        refine lv_iload hx hb dX6_isMixed_46 (lv_at hl 3 rfl) ?_
        refine t_lald hC hK hP 3 rfl (by omega) (by omega) dX6_isMixed_48 (fun y17 => ?_)
        refine lv_land hx hb dX6_isMixed_49 ?_
        refine t_l (fun y18 => ?_)
        refine lv_lor hx hb dX6_isMixed_50 ?_
        refine t_l (fun y19 => ?_)
        refine lv_lstore_n (lv' := [(3, .long y19), (1, .long y15), (0, .ref a0), (5, .int x1)]) hx hb dX6_isMixed_51 rfl hl (by decide) rfl (fun ls hl => ?_)
        obtain ⟨z20, ez20⟩ : ∃ q : Int32, q = x1 + Int32.ofInt 1 := ⟨_, rfl⟩
        have tz20 : z20.toInt = x1.toInt + 1 := by rw [ez20]; exact add_i (y := 1) (by have p_ := i_lo x1; show _ ≤ _ + (1 : Int); omega) (by have q_ := i_hi x1; show _ + (1 : Int) ≤ _; omega)
        refine lv_iinc (v := z20) (lv' := [(5, .int z20), (3, .long y19), (1, .long y15), (0, .ref a0)]) hx hb dX6_isMixed_52 hl (k := 3) rfl ez20.symm (by decide) rfl (fun ls hl => ?_)
        refine lv_goto (tgt := 7) hx hb dX6_isMixed_55 (by decide) ?_
        exact ih  z20 y19 y15 H locs ls (by omega) (by omega) (hP.subm [0, 1, 2, 3] rfl) (hD.sub [0, 1, 2, 3] (by decide +kernel) rfl) hS (lv_sub hl [3, 2, 1, 0] rfl)
  have l_l21 : (0 : Int32).toInt = 0 := rfl
  exact L_7 4 0 0 0 H locs ls (by omega) (by omega) (hP.subm [0, 1, 2, 3] rfl) (hD.sub [0, 1, 2, 3] (by decide +kernel) rfl) hS (lv_sub hl [3, 2, 1, 0] rfl)
theorem dX6_settles_0 : decode cX6_settles 0 = .ok (.iconst 0, 1) := by decide +kernel
theorem dX6_settles_1 : decode cX6_settles 1 = .ok (.istore_n 2, 1) := by decide +kernel
theorem dX6_settles_2 : decode cX6_settles 2 = .ok (.iload_n 2, 1) := by decide +kernel
theorem dX6_settles_3 : decode cX6_settles 3 = .ok (.iconst 2, 1) := by decide +kernel
theorem dX6_settles_4 : decode cX6_settles 4 = .ok (.if_icmp .gt 104, 3) := by decide +kernel
theorem dX6_settles_108 : decode cX6_settles 108 = .ok (.iconst 1, 1) := by decide +kernel
theorem dX6_settles_109 : decode cX6_settles 109 = .ok (.ireturn, 1) := by decide +kernel
theorem dX6_settles_7 : decode cX6_settles 7 = .ok (.iload_n 1, 1) := by decide +kernel
theorem dX6_settles_8 : decode cX6_settles 8 = .ok (.iload_n 2, 1) := by decide +kernel
theorem dX6_settles_9 : decode cX6_settles 9 = .ok (.invokestatic 175, 3) := by decide +kernel
theorem dX6_settles_12 : decode cX6_settles 12 = .ok (.istore_n 3, 1) := by decide +kernel
theorem dX6_settles_13 : decode cX6_settles 13 = .ok (.lconst 0, 1) := by decide +kernel
theorem dX6_settles_14 : decode cX6_settles 14 = .ok (.lstore 4, 2) := by decide +kernel
theorem dX6_settles_16 : decode cX6_settles 16 = .ok (.lconst 0, 1) := by decide +kernel
theorem dX6_settles_17 : decode cX6_settles 17 = .ok (.lstore 6, 2) := by decide +kernel
theorem dX6_settles_19 : decode cX6_settles 19 = .ok (.iconst 0, 1) := by decide +kernel
theorem dX6_settles_20 : decode cX6_settles 20 = .ok (.istore 8, 2) := by decide +kernel
theorem dX6_settles_22 : decode cX6_settles 22 = .ok (.iload 8, 2) := by decide +kernel
theorem dX6_settles_24 : decode cX6_settles 24 = .ok (.aload_n 0, 1) := by decide +kernel
theorem dX6_settles_25 : decode cX6_settles 25 = .ok (.getfield 59, 3) := by decide +kernel
theorem dX6_settles_28 : decode cX6_settles 28 = .ok (.if_icmp .ge 58, 3) := by decide +kernel
theorem dX6_settles_86 : decode cX6_settles 86 = .ok (.lload 4, 2) := by decide +kernel
theorem dX6_settles_88 : decode cX6_settles 88 = .ok (.lconst 0, 1) := by decide +kernel
theorem dX6_settles_89 : decode cX6_settles 89 = .ok (.lcmp, 1) := by decide +kernel
theorem dX6_settles_90 : decode cX6_settles 90 = .ok (.ifCond .eq 12, 3) := by decide +kernel
theorem dX6_settles_102 : decode cX6_settles 102 = .ok (.iinc 2 1, 3) := by decide +kernel
theorem dX6_settles_105 : decode cX6_settles 105 = .ok (.goto (-103), 3) := by decide +kernel
theorem dX6_settles_93 : decode cX6_settles 93 = .ok (.lload 6, 2) := by decide +kernel
theorem dX6_settles_95 : decode cX6_settles 95 = .ok (.lconst 0, 1) := by decide +kernel
theorem dX6_settles_96 : decode cX6_settles 96 = .ok (.lcmp, 1) := by decide +kernel
theorem dX6_settles_97 : decode cX6_settles 97 = .ok (.ifCond .eq 5, 3) := by decide +kernel
theorem dX6_settles_100 : decode cX6_settles 100 = .ok (.iconst 0, 1) := by decide +kernel
theorem dX6_settles_101 : decode cX6_settles 101 = .ok (.ireturn, 1) := by decide +kernel
theorem dX6_settles_31 : decode cX6_settles 31 = .ok (.aload_n 0, 1) := by decide +kernel
theorem dX6_settles_32 : decode cX6_settles 32 = .ok (.getfield 50, 3) := by decide +kernel
theorem dX6_settles_35 : decode cX6_settles 35 = .ok (.iload 8, 2) := by decide +kernel
theorem dX6_settles_37 : decode cX6_settles 37 = .ok (.laload, 1) := by decide +kernel
theorem dX6_settles_38 : decode cX6_settles 38 = .ok (.aload_n 0, 1) := by decide +kernel
theorem dX6_settles_39 : decode cX6_settles 39 = .ok (.getfield 46, 3) := by decide +kernel
theorem dX6_settles_42 : decode cX6_settles 42 = .ok (.iload_n 3, 1) := by decide +kernel
theorem dX6_settles_43 : decode cX6_settles 43 = .ok (.iload 8, 2) := by decide +kernel
theorem dX6_settles_45 : decode cX6_settles 45 = .ok (.iadd, 1) := by decide +kernel
theorem dX6_settles_46 : decode cX6_settles 46 = .ok (.laload, 1) := by decide +kernel
theorem dX6_settles_47 : decode cX6_settles 47 = .ok (.land, 1) := by decide +kernel
theorem dX6_settles_48 : decode cX6_settles 48 = .ok (.lstore 9, 2) := by decide +kernel
theorem dX6_settles_50 : decode cX6_settles 50 = .ok (.lload 4, 2) := by decide +kernel
theorem dX6_settles_52 : decode cX6_settles 52 = .ok (.lload 9, 2) := by decide +kernel
theorem dX6_settles_54 : decode cX6_settles 54 = .ok (.aload_n 0, 1) := by decide +kernel
theorem dX6_settles_55 : decode cX6_settles 55 = .ok (.getfield 53, 3) := by decide +kernel
theorem dX6_settles_58 : decode cX6_settles 58 = .ok (.iload 8, 2) := by decide +kernel
theorem dX6_settles_60 : decode cX6_settles 60 = .ok (.laload, 1) := by decide +kernel
theorem dX6_settles_61 : decode cX6_settles 61 = .ok (.land, 1) := by decide +kernel
theorem dX6_settles_62 : decode cX6_settles 62 = .ok (.lor, 1) := by decide +kernel
theorem dX6_settles_63 : decode cX6_settles 63 = .ok (.lstore 4, 2) := by decide +kernel
theorem dX6_settles_65 : decode cX6_settles 65 = .ok (.lload 6, 2) := by decide +kernel
theorem dX6_settles_67 : decode cX6_settles 67 = .ok (.lload 9, 2) := by decide +kernel
theorem dX6_settles_69 : decode cX6_settles 69 = .ok (.aload_n 0, 1) := by decide +kernel
theorem dX6_settles_70 : decode cX6_settles 70 = .ok (.getfield 56, 3) := by decide +kernel
theorem dX6_settles_73 : decode cX6_settles 73 = .ok (.iload 8, 2) := by decide +kernel
theorem dX6_settles_75 : decode cX6_settles 75 = .ok (.laload, 1) := by decide +kernel
theorem dX6_settles_76 : decode cX6_settles 76 = .ok (.land, 1) := by decide +kernel
theorem dX6_settles_77 : decode cX6_settles 77 = .ok (.lor, 1) := by decide +kernel
theorem dX6_settles_78 : decode cX6_settles 78 = .ok (.lstore 6, 2) := by decide +kernel
theorem dX6_settles_80 : decode cX6_settles 80 = .ok (.iinc 8 1, 3) := by decide +kernel
theorem dX6_settles_83 : decode cX6_settles 83 = .ok (.goto (-61), 3) := by decide +kernel
set_option maxHeartbeats 4000000 in
set_option maxRecDepth 100000 in
theorem c110_X6_settles (l : Launch) (G : va_G) (cI cJ cB cZ : ClassId) (a0 a1 a2 a3 a4 a5 a6 a7 a8 a9 a10 : Nat) (b1 : Int32) (v_tr_3 : Int32) (v_tr_6 : Int32) (v_tr_7 : Int32) (v_tr_8 : Int32) (v_tr_10 : Int32) (v_tr_15 : Int32) (v_tr_16 : Int32) (v_tr_17 : Int32) (v_tr_18 : Int32) (v_tr_19 : Int32) (g_tr_part : Nat → Int64) (g_tr_seen : Nat → Int64) (g_tr_said : Nat → Int64) (g_tr_lies : Nat → Int64) (hv_0 : 0 ≤ b1.toInt) (hv_1 : b1.toInt ≤ 239) (hv_2 : 0 ≤ v_tr_3.toInt) (hv_3 : v_tr_3.toInt ≤ 729) (hv_4 : 0 ≤ v_tr_10.toInt) (hv_5 : v_tr_10.toInt ≤ 240) (hv_6 : 0 ≤ v_tr_15.toInt) (hv_7 : v_tr_15.toInt ≤ 3) : Con l G (TY cI cJ cB cZ) yX6_settles cX6_settles 11 (some .boolean) ({ frames := 1, cells := 0, slots := 0, locals := 21 } : Room) [.ref a0, .int b1] [(a0, .inr (6, [.ref a1, .ref a2, .ref a3, .int v_tr_3, .ref a4, .ref a5, .int v_tr_6, .int v_tr_7, .int v_tr_8, .ref a6, .int v_tr_10, .ref a7, .ref a8, .ref a9, .ref a10, .int v_tr_15, .int v_tr_16, .int v_tr_17, .int v_tr_18, .int v_tr_19])), (a8, .inl (cJ, 3, .inr (.inl g_tr_part))), (a7, .inl (cJ, 2160, .inr (.inl g_tr_seen))), (a9, .inl (cJ, 3, .inr (.inl g_tr_said))), (a10, .inl (cJ, 3, .inr (.inl g_tr_lies)))] (QI G (TY cI cJ cB cZ) (fun (r : Int32) (u : Unit) => (0 ≤ r.toInt ∧ r.toInt ≤ 1)) (fun u : Unit => [(a0, .inr (6, [.ref a1, .ref a2, .ref a3, .int v_tr_3, .ref a4, .ref a5, .int v_tr_6, .int v_tr_7, .int v_tr_8, .ref a6, .int v_tr_10, .ref a7, .ref a8, .ref a9, .ref a10, .int v_tr_15, .int v_tr_16, .int v_tr_17, .int v_tr_18, .int v_tr_19])), (a8, .inl (cJ, 3, .inr (.inl g_tr_part))), (a7, .inl (cJ, 2160, .inr (.inl g_tr_seen))), (a9, .inl (cJ, 3, .inr (.inl g_tr_said))), (a10, .inl (cJ, 3, .inr (.inl g_tr_lies)))])) := by
  refine k_met (by decide) (Nat.le_of_ble_eq_true rfl) ?_
  intro p e s m below meth c A ls hC hr hlk hnm hN hZ hK hA hP hD hS hl
  have hl : lv_has ls 11 [(0, .ref a0), (1, .int b1)] := hl
  generalize hQm : MQ below _ _ s _ _ A = Qm
  generalize (List.toArray _ : Array Value) = args at hC hQm ⊢
  obtain ⟨hx, hb, hml, hown, hts⟩ := id hC
  obtain ⟨H, hH⟩ : ∃ q, q = s.heap := ⟨_, rfl⟩
  obtain ⟨locs, hlo⟩ : ∃ q : List Loc, q = [] := ⟨_, rfl⟩
  have hP : va_P G cl [(a0, .inr (6, [.ref a1, .ref a2, .ref a3, .int v_tr_3, .ref a4, .ref a5, .int v_tr_6, .int v_tr_7, .int v_tr_8, .ref a6, .int v_tr_10, .ref a7, .ref a8, .ref a9, .ref a10, .int v_tr_15, .int v_tr_16, .int v_tr_17, .int v_tr_18, .int v_tr_19])), (a8, .inl (cJ, 3, .inr (.inl g_tr_part))), (a7, .inl (cJ, 2160, .inr (.inl g_tr_seen))), (a9, .inl (cJ, 3, .inr (.inl g_tr_said))), (a10, .inl (cJ, 3, .inr (.inl g_tr_lies)))] H := by rw [hH]; exact hP
  have hS : va_S A s.heap H locs := by rw [hH, hlo]; exact hS
  rw [← hlo]
  rw [← hH]
  refine lv_iconst (v := 0) hx hb dX6_settles_0 (by decide) ?_
  refine lv_istore_n (lv' := [(2, .int 0), (0, .ref a0), (1, .int b1)]) hx hb dX6_settles_1 rfl hl (by decide) rfl (fun ls hl => ?_)
  have L_2 : ∀ (n : Nat) (x1 : Int32) (H : Heap) (locs : List Loc) (ls : Array Slot), (0 ≤ x1.toInt ∧ x1.toInt ≤ 3) → 3 - x1.toInt < (n : Int) → va_P G cl [(a0, .inr (6, [.ref a1, .ref a2, .ref a3, .int v_tr_3, .ref a4, .ref a5, .int v_tr_6, .int v_tr_7, .int v_tr_8, .ref a6, .int v_tr_10, .ref a7, .ref a8, .ref a9, .ref a10, .int v_tr_15, .int v_tr_16, .int v_tr_17, .int v_tr_18, .int v_tr_19])), (a8, .inl (cJ, 3, .inr (.inl g_tr_part))), (a7, .inl (cJ, 2160, .inr (.inl g_tr_seen))), (a9, .inl (cJ, 3, .inr (.inl g_tr_said))), (a10, .inl (cJ, 3, .inr (.inl g_tr_lies)))] H → va_D A [(a0, .inr (6, [.ref a1, .ref a2, .ref a3, .int v_tr_3, .ref a4, .ref a5, .int v_tr_6, .int v_tr_7, .int v_tr_8, .ref a6, .int v_tr_10, .ref a7, .ref a8, .ref a9, .ref a10, .int v_tr_15, .int v_tr_16, .int v_tr_17, .int v_tr_18, .int v_tr_19])), (a8, .inl (cJ, 3, .inr (.inl g_tr_part))), (a7, .inl (cJ, 2160, .inr (.inl g_tr_seen))), (a9, .inl (cJ, 3, .inr (.inl g_tr_said))), (a10, .inl (cJ, 3, .inr (.inl g_tr_lies)))] → va_S A s.heap H locs → lv_has ls 11 [(0, .ref a0), (1, .int b1), (2, .int x1)] → W p l e ({ frames := 1, cells := 0, slots := 0, locals := 21 } : Room) s m args below meth c H locs 0 0 Qm (F0 m 2 ls []) := by
    intro n
    induction n with
    | zero => intro x1 H locs ls hv hm; omega
    | succ n ih =>
      intro x1 H locs ls hv hm hP hD hS hl
      refine lv_iload_n hx hb dX6_settles_2 rfl (lv_at hl 2 rfl) ?_
      refine lv_iconst (v := 2) hx hb dX6_settles_3 (by decide) ?_
      refine lv_icmp_gt (tgt := 108) hx hb dX6_settles_4 (by decide) (fun c2 => ?_) (fun c2 => ?_)
      · have dc2 : 2 < x1.toInt := (fa_lt _ _).mp c2
        refine lv_iconst (v := 1) hx hb dX6_settles_108 (by decide) ?_
        have l_l3 : (1 : Int32).toInt = 1 := rfl
        rw [← hQm]
        exact k_zret hC hr hlk hK hP hD hS () [0, 1, 2, 3, 4] rfl (by decide +kernel) rfl (show 0 ≤ (1 : Int32).toInt ∧ (1 : Int32).toInt ≤ 1 from by omega) (Nat.le_of_ble_eq_true rfl) (Nat.le_of_ble_eq_true rfl) dX6_settles_109
      · have dc2 : x1.toInt ≤ 2 := fa_nlt c2
        refine lv_iload_n hx hb dX6_settles_7 rfl (lv_at hl 1 rfl) ?_
        refine lv_iload_n hx hb dX6_settles_8 rfl (lv_at hl 2 rfl) ?_
        refine k_ci (wr := [(a0, .inr (6, [.ref a1, .ref a2, .ref a3, .int v_tr_3, .ref a4, .ref a5, .int v_tr_6, .int v_tr_7, .int v_tr_8, .ref a6, .int v_tr_10, .ref a7, .ref a8, .ref a9, .ref a10, .int v_tr_15, .int v_tr_16, .int v_tr_17, .int v_tr_18, .int v_tr_19])), (a8, .inl (cJ, 3, .inr (.inl g_tr_part))), (a7, .inl (cJ, 2160, .inr (.inl g_tr_seen))), (a9, .inl (cJ, 3, .inr (.inl g_tr_said))), (a10, .inl (cJ, 3, .inr (.inl g_tr_lies)))]) (k_rS hC hN hZ hS hA hK hP hD (c107_X6_seenAt l G cI cJ cB cZ b1 x1 hv_0 hv_1 (by omega) (by omega)) [] rfl (by decide +kernel) mi_X6_seenAt st_X6_seenAt wm_X6_175 hl.1 rfl rfl (Nat.le_of_ble_eq_true rfl) ⟨(Nat.le_of_ble_eq_true rfl), (Nat.le_of_ble_eq_true rfl)⟩ dX6_settles_9 ⟨(Nat.le_of_ble_eq_true rfl), (Nat.le_of_ble_eq_true rfl)⟩) hP hD hS hA [] [0, 1, 2, 3, 4] rfl rfl (by decide +kernel) (by decide +kernel) (fun r4 u4 H locs hp hP hD hS => ?_)
        have hp : (0 ≤ r4.toInt ∧ r4.toInt ≤ 2157) := hp
        have hP : va_P G cl [(a0, .inr (6, [.ref a1, .ref a2, .ref a3, .int v_tr_3, .ref a4, .ref a5, .int v_tr_6, .int v_tr_7, .int v_tr_8, .ref a6, .int v_tr_10, .ref a7, .ref a8, .ref a9, .ref a10, .int v_tr_15, .int v_tr_16, .int v_tr_17, .int v_tr_18, .int v_tr_19])), (a8, .inl (cJ, 3, .inr (.inl g_tr_part))), (a7, .inl (cJ, 2160, .inr (.inl g_tr_seen))), (a9, .inl (cJ, 3, .inr (.inl g_tr_said))), (a10, .inl (cJ, 3, .inr (.inl g_tr_lies)))] H := hP
        have hD : va_D A [(a0, .inr (6, [.ref a1, .ref a2, .ref a3, .int v_tr_3, .ref a4, .ref a5, .int v_tr_6, .int v_tr_7, .int v_tr_8, .ref a6, .int v_tr_10, .ref a7, .ref a8, .ref a9, .ref a10, .int v_tr_15, .int v_tr_16, .int v_tr_17, .int v_tr_18, .int v_tr_19])), (a8, .inl (cJ, 3, .inr (.inl g_tr_part))), (a7, .inl (cJ, 2160, .inr (.inl g_tr_seen))), (a9, .inl (cJ, 3, .inr (.inl g_tr_said))), (a10, .inl (cJ, 3, .inr (.inl g_tr_lies)))] := hD
        have hq4 := hp
        refine lv_istore_n (lv' := [(3, .int r4), (0, .ref a0), (1, .int b1), (2, .int x1)]) hx hb dX6_settles_12 rfl hl (by decide) rfl (fun ls hl => ?_)
        refine lv_lconst (v := 0) hx hb dX6_settles_13 (by decide) ?_
        refine lv_lstore (lv' := [(4, .long 0), (3, .int r4), (0, .ref a0), (1, .int b1), (2, .int x1)]) hx hb dX6_settles_14 hl (by decide) rfl (fun ls hl => ?_)
        refine lv_lconst (v := 0) hx hb dX6_settles_16 (by decide) ?_
        refine lv_lstore (lv' := [(6, .long 0), (4, .long 0), (3, .int r4), (0, .ref a0), (1, .int b1), (2, .int x1)]) hx hb dX6_settles_17 hl (by decide) rfl (fun ls hl => ?_)
        refine lv_iconst (v := 0) hx hb dX6_settles_19 (by decide) ?_
        refine lv_istore (lv' := [(8, .int 0), (6, .long 0), (4, .long 0), (3, .int r4), (0, .ref a0), (1, .int b1), (2, .int x1)]) hx hb dX6_settles_20 hl (by decide) rfl (fun ls hl => ?_)
        have L_22 : ∀ (n : Nat) (x5 : Int32) (y6 : Int64) (y7 : Int64) (H : Heap) (locs : List Loc) (ls : Array Slot), (0 ≤ x5.toInt ∧ x5.toInt ≤ 3) → 3 - x5.toInt < (n : Int) → va_P G cl [(a0, .inr (6, [.ref a1, .ref a2, .ref a3, .int v_tr_3, .ref a4, .ref a5, .int v_tr_6, .int v_tr_7, .int v_tr_8, .ref a6, .int v_tr_10, .ref a7, .ref a8, .ref a9, .ref a10, .int v_tr_15, .int v_tr_16, .int v_tr_17, .int v_tr_18, .int v_tr_19])), (a8, .inl (cJ, 3, .inr (.inl g_tr_part))), (a7, .inl (cJ, 2160, .inr (.inl g_tr_seen))), (a9, .inl (cJ, 3, .inr (.inl g_tr_said))), (a10, .inl (cJ, 3, .inr (.inl g_tr_lies)))] H → va_D A [(a0, .inr (6, [.ref a1, .ref a2, .ref a3, .int v_tr_3, .ref a4, .ref a5, .int v_tr_6, .int v_tr_7, .int v_tr_8, .ref a6, .int v_tr_10, .ref a7, .ref a8, .ref a9, .ref a10, .int v_tr_15, .int v_tr_16, .int v_tr_17, .int v_tr_18, .int v_tr_19])), (a8, .inl (cJ, 3, .inr (.inl g_tr_part))), (a7, .inl (cJ, 2160, .inr (.inl g_tr_seen))), (a9, .inl (cJ, 3, .inr (.inl g_tr_said))), (a10, .inl (cJ, 3, .inr (.inl g_tr_lies)))] → va_S A s.heap H locs → lv_has ls 11 [(0, .ref a0), (1, .int b1), (2, .int x1), (3, .int r4), (4, .long y7), (6, .long y6), (8, .int x5)] → W p l e ({ frames := 1, cells := 0, slots := 0, locals := 21 } : Room) s m args below meth c H locs 0 0 Qm (F0 m 22 ls []) := by
          intro n
          induction n with
          | zero => intro x5 y6 y7 H locs ls hv hm; omega
          | succ n ih_22 =>
            intro x5 y6 y7 H locs ls hv hm hP hD hS hl
            refine lv_iload hx hb dX6_settles_22 (lv_at hl 6 rfl) ?_
            refine lv_aload_n hx hb dX6_settles_24 rfl (lv_at hl 0 rfl) ?_
            refine k_get hC hK hP iX6 0 15 wf_X6_59 rfl (by decide) rfl rfl dX6_settles_25 ?_
            refine lv_icmp_ge (tgt := 86) hx hb dX6_settles_28 (by decide) (fun c8 => ?_) (fun c8 => ?_)
            · have dc8 : v_tr_15.toInt ≤ x5.toInt := (fa_le _ _).mp c8
              refine lv_lload hx hb dX6_settles_86 (lv_at hl 4 rfl) ?_
              refine lv_lconst (v := 0) hx hb dX6_settles_88 (by decide) ?_
              refine W.lcmp hx hb dX6_settles_89 ?_
              refine lv_topi (fun z9 _ => ?_)
              refine lv_if_eq (tgt := 102) hx hb dX6_settles_90 (by decide) (fun c10 => ?_) (fun c10 => ?_)
              · have dc10 : z9.toInt = 0 := (fa_eq _ _).mp c10; have lbc10_0 := i_lo z9; have ubc10_0 := i_hi z9
                obtain ⟨z11, ez11⟩ : ∃ q : Int32, q = x1 + Int32.ofInt 1 := ⟨_, rfl⟩
                have tz11 : z11.toInt = x1.toInt + 1 := by rw [ez11]; exact add_i (y := 1) (by have p_ := i_lo x1; show _ ≤ _ + (1 : Int); omega) (by have q_ := i_hi x1; show _ + (1 : Int) ≤ _; omega)
                refine lv_iinc (v := z11) (lv' := [(2, .int z11), (0, .ref a0), (1, .int b1), (3, .int r4), (4, .long y7), (6, .long y6), (8, .int x5)]) hx hb dX6_settles_102 hl (k := 2) rfl ez11.symm (by decide) rfl (fun ls hl => ?_)
                refine lv_goto (tgt := 2) hx hb dX6_settles_105 (by decide) ?_
                exact ih  z11 H locs ls (by omega) (by omega) (hP.subm [0, 1, 2, 3, 4] rfl) (hD.sub [0, 1, 2, 3, 4] (by decide +kernel) rfl) hS (lv_sub hl [1, 2, 0] rfl)
              · have dc10 : z9.toInt ≠ 0 := fa_ne c10; have lbc10_0 := i_lo z9; have ubc10_0 := i_hi z9
                refine lv_lload hx hb dX6_settles_93 (lv_at hl 5 rfl) ?_
                refine lv_lconst (v := 0) hx hb dX6_settles_95 (by decide) ?_
                refine W.lcmp hx hb dX6_settles_96 ?_
                refine lv_topi (fun z12 _ => ?_)
                refine lv_if_eq (tgt := 102) hx hb dX6_settles_97 (by decide) (fun c13 => ?_) (fun c13 => ?_)
                · have dc13 : z12.toInt = 0 := (fa_eq _ _).mp c13; have lbc13_0 := i_lo z12; have ubc13_0 := i_hi z12
                  obtain ⟨z14, ez14⟩ : ∃ q : Int32, q = x1 + Int32.ofInt 1 := ⟨_, rfl⟩
                  have tz14 : z14.toInt = x1.toInt + 1 := by rw [ez14]; exact add_i (y := 1) (by have p_ := i_lo x1; show _ ≤ _ + (1 : Int); omega) (by have q_ := i_hi x1; show _ + (1 : Int) ≤ _; omega)
                  refine lv_iinc (v := z14) (lv' := [(2, .int z14), (0, .ref a0), (1, .int b1), (3, .int r4), (4, .long y7), (6, .long y6), (8, .int x5)]) hx hb dX6_settles_102 hl (k := 2) rfl ez14.symm (by decide) rfl (fun ls hl => ?_)
                  refine lv_goto (tgt := 2) hx hb dX6_settles_105 (by decide) ?_
                  exact ih  z14 H locs ls (by omega) (by omega) (hP.subm [0, 1, 2, 3, 4] rfl) (hD.sub [0, 1, 2, 3, 4] (by decide +kernel) rfl) hS (lv_sub hl [1, 2, 0] rfl)
                · have dc13 : z12.toInt ≠ 0 := fa_ne c13; have lbc13_0 := i_lo z12; have ubc13_0 := i_hi z12
                  refine lv_iconst (v := 0) hx hb dX6_settles_100 (by decide) ?_
                  have l_l15 : (0 : Int32).toInt = 0 := rfl
                  rw [← hQm]
                  exact k_zret hC hr hlk hK hP hD hS () [0, 1, 2, 3, 4] rfl (by decide +kernel) rfl (show 0 ≤ (0 : Int32).toInt ∧ (0 : Int32).toInt ≤ 1 from by omega) (Nat.le_of_ble_eq_true rfl) (Nat.le_of_ble_eq_true rfl) dX6_settles_101
            · have dc8 : x5.toInt < v_tr_15.toInt := fa_nle c8
              refine lv_aload_n hx hb dX6_settles_31 rfl (lv_at hl 0 rfl) ?_
              refine k_get hC hK hP iX6 0 12 wf_X6_50 rfl (by decide) rfl rfl dX6_settles_32 ?_
              refine lv_iload hx hb dX6_settles_35 (lv_at hl 6 rfl) ?_
              refine t_lald hC hK hP 1 rfl (by omega) (by omega) dX6_settles_37 (fun y16 => ?_)
              refine lv_aload_n hx hb dX6_settles_38 rfl (lv_at hl 0 rfl) ?_
              refine k_get hC hK hP iX6 0 11 wf_X6_46 rfl (by decide) rfl rfl dX6_settles_39 ?_
              refine lv_iload_n hx hb dX6_settles_42 rfl (lv_at hl 3 rfl) ?_
              refine lv_iload hx hb dX6_settles_43 (lv_at hl 6 rfl) ?_
              refine lv_iadd hx hb dX6_settles_45 ?_
              refine t_i (fun q => q.toInt = r4.toInt + x5.toInt) (add_i (by show (-2147483648 : Int) ≤ r4.toInt + x5.toInt; omega) (by show r4.toInt + x5.toInt ≤ (2147483647 : Int); omega)) (fun z17 tz17 => ?_)
              refine t_lald hC hK hP 2 rfl (by omega) (by omega) dX6_settles_46 (fun y18 => ?_)
              refine lv_land hx hb dX6_settles_47 ?_
              refine t_l (fun y19 => ?_)
              refine lv_lstore (lv' := [(9, .long y19), (0, .ref a0), (1, .int b1), (2, .int x1), (3, .int r4), (4, .long y7), (6, .long y6), (8, .int x5)]) hx hb dX6_settles_48 hl (by decide) rfl (fun ls hl => ?_)
              refine lv_lload hx hb dX6_settles_50 (lv_at hl 5 rfl) ?_
              refine lv_lload hx hb dX6_settles_52 (lv_at hl 0 rfl) ?_
              refine lv_aload_n hx hb dX6_settles_54 rfl (lv_at hl 1 rfl) ?_
              refine k_get hC hK hP iX6 0 13 wf_X6_53 rfl (by decide) rfl rfl dX6_settles_55 ?_
              refine lv_iload hx hb dX6_settles_58 (lv_at hl 7 rfl) ?_
              refine t_lald hC hK hP 3 rfl (by omega) (by omega) dX6_settles_60 (fun y20 => ?_)
              refine lv_land hx hb dX6_settles_61 ?_
              refine t_l (fun y21 => ?_)
              refine lv_lor hx hb dX6_settles_62 ?_
              refine t_l (fun y22 => ?_)
              refine lv_lstore (lv' := [(4, .long y22), (9, .long y19), (0, .ref a0), (1, .int b1), (2, .int x1), (3, .int r4), (6, .long y6), (8, .int x5)]) hx hb dX6_settles_63 hl (by decide) rfl (fun ls hl => ?_)
              refine lv_lload hx hb dX6_settles_65 (lv_at hl 6 rfl) ?_
              refine lv_lload hx hb dX6_settles_67 (lv_at hl 1 rfl) ?_
              refine lv_aload_n hx hb dX6_settles_69 rfl (lv_at hl 2 rfl) ?_
              refine k_get hC hK hP iX6 0 14 wf_X6_56 rfl (by decide) rfl rfl dX6_settles_70 ?_
              refine lv_iload hx hb dX6_settles_73 (lv_at hl 7 rfl) ?_
              refine t_lald hC hK hP 4 rfl (by omega) (by omega) dX6_settles_75 (fun y23 => ?_)
              refine lv_land hx hb dX6_settles_76 ?_
              refine t_l (fun y24 => ?_)
              refine lv_lor hx hb dX6_settles_77 ?_
              refine t_l (fun y25 => ?_)
              refine lv_lstore (lv' := [(6, .long y25), (4, .long y22), (9, .long y19), (0, .ref a0), (1, .int b1), (2, .int x1), (3, .int r4), (8, .int x5)]) hx hb dX6_settles_78 hl (by decide) rfl (fun ls hl => ?_)
              obtain ⟨z26, ez26⟩ : ∃ q : Int32, q = x5 + Int32.ofInt 1 := ⟨_, rfl⟩
              have tz26 : z26.toInt = x5.toInt + 1 := by rw [ez26]; exact add_i (y := 1) (by have p_ := i_lo x5; show _ ≤ _ + (1 : Int); omega) (by have q_ := i_hi x5; show _ + (1 : Int) ≤ _; omega)
              refine lv_iinc (v := z26) (lv' := [(8, .int z26), (6, .long y25), (4, .long y22), (9, .long y19), (0, .ref a0), (1, .int b1), (2, .int x1), (3, .int r4)]) hx hb dX6_settles_80 hl (k := 7) rfl ez26.symm (by decide) rfl (fun ls hl => ?_)
              refine lv_goto (tgt := 22) hx hb dX6_settles_83 (by decide) ?_
              exact ih_22  z26 y25 y22 H locs ls (by omega) (by omega) (hP.subm [0, 1, 2, 3, 4] rfl) (hD.sub [0, 1, 2, 3, 4] (by decide +kernel) rfl) hS (lv_sub hl [4, 5, 6, 7, 2, 1, 0] rfl)
        have l_l27 : (0 : Int32).toInt = 0 := rfl
        exact L_22 4 0 0 0 H locs ls (by omega) (by omega) (hP.subm [0, 1, 2, 3, 4] rfl) (hD.sub [0, 1, 2, 3, 4] (by decide +kernel) rfl) hS (lv_sub hl [4, 5, 6, 3, 2, 1, 0] rfl)
  have l_l28 : (0 : Int32).toInt = 0 := rfl
  exact L_2 4 0 H locs ls (by omega) (by omega) (hP.subm [0, 1, 2, 3, 4] rfl) (hD.sub [0, 1, 2, 3, 4] (by decide +kernel) rfl) hS (lv_sub hl [1, 2, 0] rfl)
theorem dX6_canSettle_0 : decode cX6_canSettle 0 = .ok (.iconst 0, 1) := by decide +kernel
theorem dX6_canSettle_1 : decode cX6_canSettle 1 = .ok (.istore_n 1, 1) := by decide +kernel
theorem dX6_canSettle_2 : decode cX6_canSettle 2 = .ok (.iload_n 1, 1) := by decide +kernel
theorem dX6_canSettle_3 : decode cX6_canSettle 3 = .ok (.aload_n 0, 1) := by decide +kernel
theorem dX6_canSettle_4 : decode cX6_canSettle 4 = .ok (.getfield 43, 3) := by decide +kernel
set_option maxRecDepth 100000 in
theorem wf_X6_43 : Cond.fieldLink RX6 43 "StoneTrust$Trials" "smallCount" "I" ∈ gw := gm (List.mem_of_getElem? (i := 464) (by decide +kernel)) rfl
theorem dX6_canSettle_7 : decode cX6_canSettle 7 = .ok (.if_icmp .ge 19, 3) := by decide +kernel
theorem dX6_canSettle_26 : decode cX6_canSettle 26 = .ok (.iconst 0, 1) := by decide +kernel
theorem dX6_canSettle_27 : decode cX6_canSettle 27 = .ok (.ireturn, 1) := by decide +kernel
theorem dX6_canSettle_10 : decode cX6_canSettle 10 = .ok (.aload_n 0, 1) := by decide +kernel
theorem dX6_canSettle_11 : decode cX6_canSettle 11 = .ok (.iload_n 1, 1) := by decide +kernel
theorem dX6_canSettle_12 : decode cX6_canSettle 12 = .ok (.invokevirtual 163, 3) := by decide +kernel
set_option maxRecDepth 100000 in
theorem wm_X6_163 : Cond.methodLink RX6 163 yX6_settles ∈ gw := gm (List.mem_of_getElem? (i := 1123) (by decide +kernel)) rfl
set_option maxRecDepth 100000 in
theorem mi_X6_settles : MI yX6_settles cX6_settles 11 (some .boolean) 1 := ⟨gm (List.mem_of_getElem? (i := 1126) rfl) rfl, gm (List.mem_of_getElem? (i := 122) (by decide +kernel)) rfl, by decide, by decide, by decide +kernel⟩
set_option maxRecDepth 100000 in
theorem in_X6_settles : Cond.instanceMethod yX6_settles ∈ gw := gm (List.mem_of_getElem? (i := 1125) (by decide +kernel)) rfl
set_option maxRecDepth 100000 in
theorem se_X6_settles : Cond.selects yX6_settles.cls yX6_settles yX6_settles ∈ gw := gm (List.mem_of_getElem? (i := 48) (by decide +kernel)) rfl
theorem dX6_canSettle_15 : decode cX6_canSettle 15 = .ok (.ifCond .eq 5, 3) := by decide +kernel
theorem dX6_canSettle_20 : decode cX6_canSettle 20 = .ok (.iinc 1 1, 3) := by decide +kernel
theorem dX6_canSettle_23 : decode cX6_canSettle 23 = .ok (.goto (-21), 3) := by decide +kernel
theorem dX6_canSettle_18 : decode cX6_canSettle 18 = .ok (.iconst 1, 1) := by decide +kernel
theorem dX6_canSettle_19 : decode cX6_canSettle 19 = .ok (.ireturn, 1) := by decide +kernel
set_option maxHeartbeats 4000000 in
set_option maxRecDepth 100000 in
theorem c111_X6_canSettle (l : Launch) (G : va_G) (cI cJ cB cZ : ClassId) (a0 a1 a2 a3 a4 a5 a6 a7 a8 a9 a10 : Nat) (v_tr_3 : Int32) (v_tr_6 : Int32) (v_tr_7 : Int32) (v_tr_8 : Int32) (v_tr_10 : Int32) (v_tr_15 : Int32) (v_tr_16 : Int32) (v_tr_17 : Int32) (v_tr_18 : Int32) (v_tr_19 : Int32) (g_tr_part : Nat → Int64) (g_tr_seen : Nat → Int64) (g_tr_said : Nat → Int64) (g_tr_lies : Nat → Int64) (hv_0 : 0 ≤ v_tr_3.toInt) (hv_1 : v_tr_3.toInt ≤ 729) (hv_2 : 0 ≤ v_tr_10.toInt) (hv_3 : v_tr_10.toInt ≤ 240) (hv_4 : 0 ≤ v_tr_15.toInt) (hv_5 : v_tr_15.toInt ≤ 3) : Con l G (TY cI cJ cB cZ) yX6_canSettle cX6_canSettle 2 (some .boolean) ({ frames := 2, cells := 0, slots := 0, locals := 51 } : Room) [.ref a0] [(a0, .inr (6, [.ref a1, .ref a2, .ref a3, .int v_tr_3, .ref a4, .ref a5, .int v_tr_6, .int v_tr_7, .int v_tr_8, .ref a6, .int v_tr_10, .ref a7, .ref a8, .ref a9, .ref a10, .int v_tr_15, .int v_tr_16, .int v_tr_17, .int v_tr_18, .int v_tr_19])), (a8, .inl (cJ, 3, .inr (.inl g_tr_part))), (a7, .inl (cJ, 2160, .inr (.inl g_tr_seen))), (a9, .inl (cJ, 3, .inr (.inl g_tr_said))), (a10, .inl (cJ, 3, .inr (.inl g_tr_lies)))] (QI G (TY cI cJ cB cZ) (fun (r : Int32) (u : Unit) => (0 ≤ r.toInt ∧ r.toInt ≤ 1)) (fun u : Unit => [(a0, .inr (6, [.ref a1, .ref a2, .ref a3, .int v_tr_3, .ref a4, .ref a5, .int v_tr_6, .int v_tr_7, .int v_tr_8, .ref a6, .int v_tr_10, .ref a7, .ref a8, .ref a9, .ref a10, .int v_tr_15, .int v_tr_16, .int v_tr_17, .int v_tr_18, .int v_tr_19])), (a8, .inl (cJ, 3, .inr (.inl g_tr_part))), (a7, .inl (cJ, 2160, .inr (.inl g_tr_seen))), (a9, .inl (cJ, 3, .inr (.inl g_tr_said))), (a10, .inl (cJ, 3, .inr (.inl g_tr_lies)))])) := by
  refine k_met (by decide) (Nat.le_of_ble_eq_true rfl) ?_
  intro p e s m below meth c A ls hC hr hlk hnm hN hZ hK hA hP hD hS hl
  have hl : lv_has ls 2 [(0, .ref a0)] := hl
  generalize hQm : MQ below _ _ s _ _ A = Qm
  generalize (List.toArray _ : Array Value) = args at hC hQm ⊢
  obtain ⟨hx, hb, hml, hown, hts⟩ := id hC
  obtain ⟨H, hH⟩ : ∃ q, q = s.heap := ⟨_, rfl⟩
  obtain ⟨locs, hlo⟩ : ∃ q : List Loc, q = [] := ⟨_, rfl⟩
  have hP : va_P G cl [(a0, .inr (6, [.ref a1, .ref a2, .ref a3, .int v_tr_3, .ref a4, .ref a5, .int v_tr_6, .int v_tr_7, .int v_tr_8, .ref a6, .int v_tr_10, .ref a7, .ref a8, .ref a9, .ref a10, .int v_tr_15, .int v_tr_16, .int v_tr_17, .int v_tr_18, .int v_tr_19])), (a8, .inl (cJ, 3, .inr (.inl g_tr_part))), (a7, .inl (cJ, 2160, .inr (.inl g_tr_seen))), (a9, .inl (cJ, 3, .inr (.inl g_tr_said))), (a10, .inl (cJ, 3, .inr (.inl g_tr_lies)))] H := by rw [hH]; exact hP
  have hS : va_S A s.heap H locs := by rw [hH, hlo]; exact hS
  rw [← hlo]
  rw [← hH]
  refine lv_iconst (v := 0) hx hb dX6_canSettle_0 (by decide) ?_
  refine lv_istore_n (lv' := [(1, .int 0), (0, .ref a0)]) hx hb dX6_canSettle_1 rfl hl (by decide) rfl (fun ls hl => ?_)
  have L_2 : ∀ (n : Nat) (x1 : Int32) (H : Heap) (locs : List Loc) (ls : Array Slot), (0 ≤ x1.toInt ∧ x1.toInt ≤ 240) → 240 - x1.toInt < (n : Int) → va_P G cl [(a0, .inr (6, [.ref a1, .ref a2, .ref a3, .int v_tr_3, .ref a4, .ref a5, .int v_tr_6, .int v_tr_7, .int v_tr_8, .ref a6, .int v_tr_10, .ref a7, .ref a8, .ref a9, .ref a10, .int v_tr_15, .int v_tr_16, .int v_tr_17, .int v_tr_18, .int v_tr_19])), (a8, .inl (cJ, 3, .inr (.inl g_tr_part))), (a7, .inl (cJ, 2160, .inr (.inl g_tr_seen))), (a9, .inl (cJ, 3, .inr (.inl g_tr_said))), (a10, .inl (cJ, 3, .inr (.inl g_tr_lies)))] H → va_D A [(a0, .inr (6, [.ref a1, .ref a2, .ref a3, .int v_tr_3, .ref a4, .ref a5, .int v_tr_6, .int v_tr_7, .int v_tr_8, .ref a6, .int v_tr_10, .ref a7, .ref a8, .ref a9, .ref a10, .int v_tr_15, .int v_tr_16, .int v_tr_17, .int v_tr_18, .int v_tr_19])), (a8, .inl (cJ, 3, .inr (.inl g_tr_part))), (a7, .inl (cJ, 2160, .inr (.inl g_tr_seen))), (a9, .inl (cJ, 3, .inr (.inl g_tr_said))), (a10, .inl (cJ, 3, .inr (.inl g_tr_lies)))] → va_S A s.heap H locs → lv_has ls 2 [(0, .ref a0), (1, .int x1)] → W p l e ({ frames := 2, cells := 0, slots := 0, locals := 51 } : Room) s m args below meth c H locs 0 0 Qm (F0 m 2 ls []) := by
    intro n
    induction n with
    | zero => intro x1 H locs ls hv hm; omega
    | succ n ih =>
      intro x1 H locs ls hv hm hP hD hS hl
      refine lv_iload_n hx hb dX6_canSettle_2 rfl (lv_at hl 1 rfl) ?_
      refine lv_aload_n hx hb dX6_canSettle_3 rfl (lv_at hl 0 rfl) ?_
      refine k_get hC hK hP iX6 0 10 wf_X6_43 rfl (by decide) rfl rfl dX6_canSettle_4 ?_
      refine lv_icmp_ge (tgt := 26) hx hb dX6_canSettle_7 (by decide) (fun c2 => ?_) (fun c2 => ?_)
      · have dc2 : v_tr_10.toInt ≤ x1.toInt := (fa_le _ _).mp c2
        refine lv_iconst (v := 0) hx hb dX6_canSettle_26 (by decide) ?_
        have l_l3 : (0 : Int32).toInt = 0 := rfl
        rw [← hQm]
        exact k_zret hC hr hlk hK hP hD hS () [0, 1, 2, 3, 4] rfl (by decide +kernel) rfl (show 0 ≤ (0 : Int32).toInt ∧ (0 : Int32).toInt ≤ 1 from by omega) (Nat.le_of_ble_eq_true rfl) (Nat.le_of_ble_eq_true rfl) dX6_canSettle_27
      · have dc2 : x1.toInt < v_tr_10.toInt := fa_nle c2
        refine lv_aload_n hx hb dX6_canSettle_10 rfl (lv_at hl 0 rfl) ?_
        refine lv_iload_n hx hb dX6_canSettle_11 rfl (lv_at hl 1 rfl) ?_
        refine k_ci (wr := []) (k_rV hC hN hZ hS hA hK hP hD (c110_X6_settles l G cI cJ cB cZ a0 a1 a2 a3 a4 a5 a6 a7 a8 a9 a10 x1 v_tr_3 v_tr_6 v_tr_7 v_tr_8 v_tr_10 v_tr_15 v_tr_16 v_tr_17 v_tr_18 v_tr_19 g_tr_part g_tr_seen g_tr_said g_tr_lies (by omega) (by omega) hv_0 hv_1 hv_2 hv_3 hv_4 hv_5) [0, 1, 2, 3, 4] rfl (by decide +kernel) mi_X6_settles in_X6_settles se_X6_settles wm_X6_163 6 0 rfl rfl rfl hl.1 rfl rfl (Nat.le_of_ble_eq_true rfl) ⟨(Nat.le_of_ble_eq_true rfl), (Nat.le_of_ble_eq_true rfl)⟩ dX6_canSettle_12 ⟨(Nat.le_of_ble_eq_true rfl), (Nat.le_of_ble_eq_true rfl)⟩) hP hD hS hA [0, 1, 2, 3, 4] [] rfl rfl (by decide +kernel) (by decide +kernel) (fun r4 u4 H locs hp hP hD hS => ?_)
        have hp : (0 ≤ r4.toInt ∧ r4.toInt ≤ 1) := hp
        have hP : va_P G cl [(a0, .inr (6, [.ref a1, .ref a2, .ref a3, .int v_tr_3, .ref a4, .ref a5, .int v_tr_6, .int v_tr_7, .int v_tr_8, .ref a6, .int v_tr_10, .ref a7, .ref a8, .ref a9, .ref a10, .int v_tr_15, .int v_tr_16, .int v_tr_17, .int v_tr_18, .int v_tr_19])), (a8, .inl (cJ, 3, .inr (.inl g_tr_part))), (a7, .inl (cJ, 2160, .inr (.inl g_tr_seen))), (a9, .inl (cJ, 3, .inr (.inl g_tr_said))), (a10, .inl (cJ, 3, .inr (.inl g_tr_lies)))] H := hP
        have hD : va_D A [(a0, .inr (6, [.ref a1, .ref a2, .ref a3, .int v_tr_3, .ref a4, .ref a5, .int v_tr_6, .int v_tr_7, .int v_tr_8, .ref a6, .int v_tr_10, .ref a7, .ref a8, .ref a9, .ref a10, .int v_tr_15, .int v_tr_16, .int v_tr_17, .int v_tr_18, .int v_tr_19])), (a8, .inl (cJ, 3, .inr (.inl g_tr_part))), (a7, .inl (cJ, 2160, .inr (.inl g_tr_seen))), (a9, .inl (cJ, 3, .inr (.inl g_tr_said))), (a10, .inl (cJ, 3, .inr (.inl g_tr_lies)))] := hD
        have hq4 := hp
        refine lv_if_eq (tgt := 20) hx hb dX6_canSettle_15 (by decide) (fun c5 => ?_) (fun c5 => ?_)
        · have dc5 : r4.toInt = 0 := (fa_eq _ _).mp c5
          obtain ⟨z6, ez6⟩ : ∃ q : Int32, q = x1 + Int32.ofInt 1 := ⟨_, rfl⟩
          have tz6 : z6.toInt = x1.toInt + 1 := by rw [ez6]; exact add_i (y := 1) (by have p_ := i_lo x1; show _ ≤ _ + (1 : Int); omega) (by have q_ := i_hi x1; show _ + (1 : Int) ≤ _; omega)
          refine lv_iinc (v := z6) (lv' := [(1, .int z6), (0, .ref a0)]) hx hb dX6_canSettle_20 hl (k := 1) rfl ez6.symm (by decide) rfl (fun ls hl => ?_)
          refine lv_goto (tgt := 2) hx hb dX6_canSettle_23 (by decide) ?_
          exact ih  z6 H locs ls (by omega) (by omega) (hP.subm [0, 1, 2, 3, 4] rfl) (hD.sub [0, 1, 2, 3, 4] (by decide +kernel) rfl) hS (lv_sub hl [1, 0] rfl)
        · have dc5 : r4.toInt ≠ 0 := fa_ne c5
          refine lv_iconst (v := 1) hx hb dX6_canSettle_18 (by decide) ?_
          have l_l7 : (1 : Int32).toInt = 1 := rfl
          rw [← hQm]
          exact k_zret hC hr hlk hK hP hD hS () [0, 1, 2, 3, 4] rfl (by decide +kernel) rfl (show 0 ≤ (1 : Int32).toInt ∧ (1 : Int32).toInt ≤ 1 from by omega) (Nat.le_of_ble_eq_true rfl) (Nat.le_of_ble_eq_true rfl) dX6_canSettle_19
  have l_l8 : (0 : Int32).toInt = 0 := rfl
  exact L_2 241 0 H locs ls (by omega) (by omega) (hP.subm [0, 1, 2, 3, 4] rfl) (hD.sub [0, 1, 2, 3, 4] (by decide +kernel) rfl) hS (lv_sub hl [1, 0] rfl)
theorem dX6_settlesAtLast_0 : decode cX6_settlesAtLast 0 = .ok (.iconst 0, 1) := by decide +kernel
theorem dX6_settlesAtLast_1 : decode cX6_settlesAtLast 1 = .ok (.istore_n 2, 1) := by decide +kernel
theorem dX6_settlesAtLast_2 : decode cX6_settlesAtLast 2 = .ok (.iload_n 2, 1) := by decide +kernel
theorem dX6_settlesAtLast_3 : decode cX6_settlesAtLast 3 = .ok (.iconst 2, 1) := by decide +kernel
theorem dX6_settlesAtLast_4 : decode cX6_settlesAtLast 4 = .ok (.if_icmp .gt 31, 3) := by decide +kernel
theorem dX6_settlesAtLast_35 : decode cX6_settlesAtLast 35 = .ok (.iconst 1, 1) := by decide +kernel
theorem dX6_settlesAtLast_36 : decode cX6_settlesAtLast 36 = .ok (.ireturn, 1) := by decide +kernel
theorem dX6_settlesAtLast_7 : decode cX6_settlesAtLast 7 = .ok (.aload_n 0, 1) := by decide +kernel
theorem dX6_settlesAtLast_8 : decode cX6_settlesAtLast 8 = .ok (.iload_n 1, 1) := by decide +kernel
theorem dX6_settlesAtLast_9 : decode cX6_settlesAtLast 9 = .ok (.iload_n 2, 1) := by decide +kernel
theorem dX6_settlesAtLast_10 : decode cX6_settlesAtLast 10 = .ok (.invokevirtual 181, 3) := by decide +kernel
set_option maxRecDepth 100000 in
theorem wm_X6_181 : Cond.methodLink RX6 181 yX6_takeShown ∈ gw := gm (List.mem_of_getElem? (i := 1131) (by decide +kernel)) rfl
set_option maxRecDepth 100000 in
theorem mi_X6_takeShown : MI yX6_takeShown cX6_takeShown 4 none 2 := ⟨gm (List.mem_of_getElem? (i := 1134) rfl) rfl, gm (List.mem_of_getElem? (i := 122) (by decide +kernel)) rfl, by decide, by decide, by decide +kernel⟩
set_option maxRecDepth 100000 in
theorem in_X6_takeShown : Cond.instanceMethod yX6_takeShown ∈ gw := gm (List.mem_of_getElem? (i := 1133) (by decide +kernel)) rfl
set_option maxRecDepth 100000 in
theorem se_X6_takeShown : Cond.selects yX6_takeShown.cls yX6_takeShown yX6_takeShown ∈ gw := gm (List.mem_of_getElem? (i := 50) (by decide +kernel)) rfl
theorem dX6_settlesAtLast_13 : decode cX6_settlesAtLast 13 = .ok (.aload_n 0, 1) := by decide +kernel
theorem dX6_settlesAtLast_14 : decode cX6_settlesAtLast 14 = .ok (.invokevirtual 155, 3) := by decide +kernel
set_option maxRecDepth 100000 in
theorem wm_X6_155 : Cond.methodLink RX6 155 yX6_isMixed ∈ gw := gm (List.mem_of_getElem? (i := 1115) (by decide +kernel)) rfl
set_option maxRecDepth 100000 in
theorem mi_X6_isMixed : MI yX6_isMixed cX6_isMixed 6 (some .boolean) 0 := ⟨gm (List.mem_of_getElem? (i := 1118) rfl) rfl, gm (List.mem_of_getElem? (i := 122) (by decide +kernel)) rfl, by decide, by decide, by decide +kernel⟩
set_option maxRecDepth 100000 in
theorem in_X6_isMixed : Cond.instanceMethod yX6_isMixed ∈ gw := gm (List.mem_of_getElem? (i := 1117) (by decide +kernel)) rfl
set_option maxRecDepth 100000 in
theorem se_X6_isMixed : Cond.selects yX6_isMixed.cls yX6_isMixed yX6_isMixed ∈ gw := gm (List.mem_of_getElem? (i := 46) (by decide +kernel)) rfl
theorem dX6_settlesAtLast_17 : decode cX6_settlesAtLast 17 = .ok (.ifCond .eq 12, 3) := by decide +kernel
theorem dX6_settlesAtLast_29 : decode cX6_settlesAtLast 29 = .ok (.iinc 2 1, 3) := by decide +kernel
theorem dX6_settlesAtLast_32 : decode cX6_settlesAtLast 32 = .ok (.goto (-30), 3) := by decide +kernel
theorem dX6_settlesAtLast_20 : decode cX6_settlesAtLast 20 = .ok (.aload_n 0, 1) := by decide +kernel
theorem dX6_settlesAtLast_21 : decode cX6_settlesAtLast 21 = .ok (.invokevirtual 185, 3) := by decide +kernel
set_option maxRecDepth 100000 in
theorem wm_X6_185 : Cond.methodLink RX6 185 yX6_canSettle ∈ gw := gm (List.mem_of_getElem? (i := 1135) (by decide +kernel)) rfl
set_option maxRecDepth 100000 in
theorem mi_X6_canSettle : MI yX6_canSettle cX6_canSettle 2 (some .boolean) 0 := ⟨gm (List.mem_of_getElem? (i := 1138) rfl) rfl, gm (List.mem_of_getElem? (i := 122) (by decide +kernel)) rfl, by decide, by decide, by decide +kernel⟩
set_option maxRecDepth 100000 in
theorem in_X6_canSettle : Cond.instanceMethod yX6_canSettle ∈ gw := gm (List.mem_of_getElem? (i := 1137) (by decide +kernel)) rfl
set_option maxRecDepth 100000 in
theorem se_X6_canSettle : Cond.selects yX6_canSettle.cls yX6_canSettle yX6_canSettle ∈ gw := gm (List.mem_of_getElem? (i := 51) (by decide +kernel)) rfl
theorem dX6_settlesAtLast_24 : decode cX6_settlesAtLast 24 = .ok (.ifCond .ne 5, 3) := by decide +kernel
theorem dX6_settlesAtLast_27 : decode cX6_settlesAtLast 27 = .ok (.iconst 0, 1) := by decide +kernel
theorem dX6_settlesAtLast_28 : decode cX6_settlesAtLast 28 = .ok (.ireturn, 1) := by decide +kernel
set_option maxHeartbeats 4000000 in
set_option maxRecDepth 100000 in
theorem c112_X6_settlesAtLast (l : Launch) (G : va_G) (cI cJ cB cZ : ClassId) (a0 a1 a2 a3 a4 a5 a6 a7 a8 a9 a10 : Nat) (b1 : Int32) (v_tr_3 : Int32) (v_tr_6 : Int32) (v_tr_7 : Int32) (v_tr_8 : Int32) (v_tr_10 : Int32) (v_tr_15 : Int32) (v_tr_16 : Int32) (v_tr_17 : Int32) (v_tr_18 : Int32) (v_tr_19 : Int32) (g_tr_seen : Nat → Int64) (g_tr_part : Nat → Int64) (g_tr_said : Nat → Int64) (g_tr_lies : Nat → Int64) (hv_0 : 0 ≤ b1.toInt) (hv_1 : b1.toInt ≤ 239) (hv_2 : 0 ≤ v_tr_3.toInt) (hv_3 : v_tr_3.toInt ≤ 729) (hv_4 : 0 ≤ v_tr_10.toInt) (hv_5 : v_tr_10.toInt ≤ 240) (hv_6 : 0 ≤ v_tr_15.toInt) (hv_7 : v_tr_15.toInt ≤ 3) : Con l G (TY cI cJ cB cZ) yX6_settlesAtLast cX6_settlesAtLast 3 (some .boolean) ({ frames := 3, cells := 0, slots := 0, locals := 72 } : Room) [.ref a0, .int b1] [(a0, .inr (6, [.ref a1, .ref a2, .ref a3, .int v_tr_3, .ref a4, .ref a5, .int v_tr_6, .int v_tr_7, .int v_tr_8, .ref a6, .int v_tr_10, .ref a7, .ref a8, .ref a9, .ref a10, .int v_tr_15, .int v_tr_16, .int v_tr_17, .int v_tr_18, .int v_tr_19])), (a7, .inl (cJ, 2160, .inr (.inl g_tr_seen))), (a8, .inl (cJ, 3, .inr (.inl g_tr_part))), (a9, .inl (cJ, 3, .inr (.inl g_tr_said))), (a10, .inl (cJ, 3, .inr (.inl g_tr_lies)))] (QI G (TY cI cJ cB cZ) (fun (r : Int32) (u : (Nat → Int64)) => (0 ≤ r.toInt ∧ r.toInt ≤ 1)) (fun u : (Nat → Int64) => [(a0, .inr (6, [.ref a1, .ref a2, .ref a3, .int v_tr_3, .ref a4, .ref a5, .int v_tr_6, .int v_tr_7, .int v_tr_8, .ref a6, .int v_tr_10, .ref a7, .ref a8, .ref a9, .ref a10, .int v_tr_15, .int v_tr_16, .int v_tr_17, .int v_tr_18, .int v_tr_19])), (a7, .inl (cJ, 2160, .inr (.inl g_tr_seen))), (a8, .inl (cJ, 3, .inr (.inl u))), (a9, .inl (cJ, 3, .inr (.inl g_tr_said))), (a10, .inl (cJ, 3, .inr (.inl g_tr_lies)))])) := by
  refine k_met (by decide) (Nat.le_of_ble_eq_true rfl) ?_
  intro p e s m below meth c A ls hC hr hlk hnm hN hZ hK hA hP hD hS hl
  have hl : lv_has ls 3 [(0, .ref a0), (1, .int b1)] := hl
  generalize hQm : MQ below _ _ s _ _ A = Qm
  generalize (List.toArray _ : Array Value) = args at hC hQm ⊢
  obtain ⟨hx, hb, hml, hown, hts⟩ := id hC
  obtain ⟨H, hH⟩ : ∃ q, q = s.heap := ⟨_, rfl⟩
  obtain ⟨locs, hlo⟩ : ∃ q : List Loc, q = [] := ⟨_, rfl⟩
  have hP : va_P G cl [(a0, .inr (6, [.ref a1, .ref a2, .ref a3, .int v_tr_3, .ref a4, .ref a5, .int v_tr_6, .int v_tr_7, .int v_tr_8, .ref a6, .int v_tr_10, .ref a7, .ref a8, .ref a9, .ref a10, .int v_tr_15, .int v_tr_16, .int v_tr_17, .int v_tr_18, .int v_tr_19])), (a7, .inl (cJ, 2160, .inr (.inl g_tr_seen))), (a8, .inl (cJ, 3, .inr (.inl g_tr_part))), (a9, .inl (cJ, 3, .inr (.inl g_tr_said))), (a10, .inl (cJ, 3, .inr (.inl g_tr_lies)))] H := by rw [hH]; exact hP
  have hS : va_S A s.heap H locs := by rw [hH, hlo]; exact hS
  rw [← hlo]
  rw [← hH]
  refine lv_iconst (v := 0) hx hb dX6_settlesAtLast_0 (by decide) ?_
  refine lv_istore_n (lv' := [(2, .int 0), (0, .ref a0), (1, .int b1)]) hx hb dX6_settlesAtLast_1 rfl hl (by decide) rfl (fun ls hl => ?_)
  have L_2 : ∀ (n : Nat) (x1 : Int32) (f2 : Nat → Int64) (H : Heap) (locs : List Loc) (ls : Array Slot), (0 ≤ x1.toInt ∧ x1.toInt ≤ 3) → 3 - x1.toInt < (n : Int) → va_P G cl [(a0, .inr (6, [.ref a1, .ref a2, .ref a3, .int v_tr_3, .ref a4, .ref a5, .int v_tr_6, .int v_tr_7, .int v_tr_8, .ref a6, .int v_tr_10, .ref a7, .ref a8, .ref a9, .ref a10, .int v_tr_15, .int v_tr_16, .int v_tr_17, .int v_tr_18, .int v_tr_19])), (a7, .inl (cJ, 2160, .inr (.inl g_tr_seen))), (a8, .inl (cJ, 3, .inr (.inl f2))), (a9, .inl (cJ, 3, .inr (.inl g_tr_said))), (a10, .inl (cJ, 3, .inr (.inl g_tr_lies)))] H → va_D A [(a0, .inr (6, [.ref a1, .ref a2, .ref a3, .int v_tr_3, .ref a4, .ref a5, .int v_tr_6, .int v_tr_7, .int v_tr_8, .ref a6, .int v_tr_10, .ref a7, .ref a8, .ref a9, .ref a10, .int v_tr_15, .int v_tr_16, .int v_tr_17, .int v_tr_18, .int v_tr_19])), (a7, .inl (cJ, 2160, .inr (.inl g_tr_seen))), (a8, .inl (cJ, 3, .inr (.inl f2))), (a9, .inl (cJ, 3, .inr (.inl g_tr_said))), (a10, .inl (cJ, 3, .inr (.inl g_tr_lies)))] → va_S A s.heap H locs → lv_has ls 3 [(0, .ref a0), (1, .int b1), (2, .int x1)] → W p l e ({ frames := 3, cells := 0, slots := 0, locals := 72 } : Room) s m args below meth c H locs 0 0 Qm (F0 m 2 ls []) := by
    intro n
    induction n with
    | zero => intro x1 f2 H locs ls hv hm; omega
    | succ n ih =>
      intro x1 f2 H locs ls hv hm hP hD hS hl
      refine lv_iload_n hx hb dX6_settlesAtLast_2 rfl (lv_at hl 2 rfl) ?_
      refine lv_iconst (v := 2) hx hb dX6_settlesAtLast_3 (by decide) ?_
      refine lv_icmp_gt (tgt := 35) hx hb dX6_settlesAtLast_4 (by decide) (fun c3 => ?_) (fun c3 => ?_)
      · have dc3 : 2 < x1.toInt := (fa_lt _ _).mp c3
        refine lv_iconst (v := 1) hx hb dX6_settlesAtLast_35 (by decide) ?_
        have l_l4 : (1 : Int32).toInt = 1 := rfl
        rw [← hQm]
        exact k_zret hC hr hlk hK hP hD hS f2 [0, 1, 2, 3, 4] rfl (by decide +kernel) rfl (show 0 ≤ (1 : Int32).toInt ∧ (1 : Int32).toInt ≤ 1 from by omega) (Nat.le_of_ble_eq_true rfl) (Nat.le_of_ble_eq_true rfl) dX6_settlesAtLast_36
      · have dc3 : x1.toInt ≤ 2 := fa_nlt c3
        refine lv_aload_n hx hb dX6_settlesAtLast_7 rfl (lv_at hl 0 rfl) ?_
        refine lv_iload_n hx hb dX6_settlesAtLast_8 rfl (lv_at hl 1 rfl) ?_
        refine lv_iload_n hx hb dX6_settlesAtLast_9 rfl (lv_at hl 2 rfl) ?_
        refine k_cv (wr := [(a9, .inl (cJ, 3, .inr (.inl g_tr_said))), (a10, .inl (cJ, 3, .inr (.inl g_tr_lies)))]) (k_rV hC hN hZ hS hA hK hP hD (c108_X6_takeShown l G cI cJ cB cZ a0 a1 a2 a3 a4 a5 a6 a7 a8 a9 a10 b1 x1 v_tr_3 v_tr_6 v_tr_7 v_tr_8 v_tr_10 v_tr_15 v_tr_16 v_tr_17 v_tr_18 v_tr_19 g_tr_seen f2 hv_0 hv_1 (by omega) (by omega) hv_2 hv_3 hv_4 hv_5 hv_6 hv_7) [0, 1, 2] rfl (by decide +kernel) mi_X6_takeShown in_X6_takeShown se_X6_takeShown wm_X6_181 6 0 rfl rfl rfl hl.1 rfl rfl (Nat.le_of_ble_eq_true rfl) ⟨(Nat.le_of_ble_eq_true rfl), (Nat.le_of_ble_eq_true rfl)⟩ dX6_settlesAtLast_10 ⟨(Nat.le_of_ble_eq_true rfl), (Nat.le_of_ble_eq_true rfl)⟩) hP hD hS hA [0, 1, 2] [3, 4] rfl rfl (by decide +kernel) (by decide +kernel) (fun u5 H locs hp hP hD hS => ?_)
        obtain ⟨f6, ef6⟩ : ∃ q, q = u5 := ⟨_, rfl⟩
        subst ef6
        have hp : (True) := hp
        have hP : va_P G cl [(a9, .inl (cJ, 3, .inr (.inl g_tr_said))), (a10, .inl (cJ, 3, .inr (.inl g_tr_lies))), (a0, .inr (6, [.ref a1, .ref a2, .ref a3, .int v_tr_3, .ref a4, .ref a5, .int v_tr_6, .int v_tr_7, .int v_tr_8, .ref a6, .int v_tr_10, .ref a7, .ref a8, .ref a9, .ref a10, .int v_tr_15, .int v_tr_16, .int v_tr_17, .int v_tr_18, .int v_tr_19])), (a7, .inl (cJ, 2160, .inr (.inl g_tr_seen))), (a8, .inl (cJ, 3, .inr (.inl f6)))] H := hP
        have hD : va_D A [(a9, .inl (cJ, 3, .inr (.inl g_tr_said))), (a10, .inl (cJ, 3, .inr (.inl g_tr_lies))), (a0, .inr (6, [.ref a1, .ref a2, .ref a3, .int v_tr_3, .ref a4, .ref a5, .int v_tr_6, .int v_tr_7, .int v_tr_8, .ref a6, .int v_tr_10, .ref a7, .ref a8, .ref a9, .ref a10, .int v_tr_15, .int v_tr_16, .int v_tr_17, .int v_tr_18, .int v_tr_19])), (a7, .inl (cJ, 2160, .inr (.inl g_tr_seen))), (a8, .inl (cJ, 3, .inr (.inl f6)))] := hD
        have hq5 := hp
        refine lv_aload_n hx hb dX6_settlesAtLast_13 rfl (lv_at hl 0 rfl) ?_
        refine k_ci (wr := [(a7, .inl (cJ, 2160, .inr (.inl g_tr_seen)))]) (k_rV hC hN hZ hS hA hK hP hD (c109_X6_isMixed l G cI cJ cB cZ a0 a1 a2 a3 a4 a5 a6 a7 a8 a9 a10 v_tr_3 v_tr_6 v_tr_7 v_tr_8 v_tr_10 v_tr_15 v_tr_16 v_tr_17 v_tr_18 v_tr_19 f6 g_tr_said g_tr_lies hv_2 hv_3 hv_4 hv_5 hv_6 hv_7) [2, 4, 0, 1] rfl (by decide +kernel) mi_X6_isMixed in_X6_isMixed se_X6_isMixed wm_X6_155 6 2 rfl rfl rfl hl.1 rfl rfl (Nat.le_of_ble_eq_true rfl) ⟨(Nat.le_of_ble_eq_true rfl), (Nat.le_of_ble_eq_true rfl)⟩ dX6_settlesAtLast_14 ⟨(Nat.le_of_ble_eq_true rfl), (Nat.le_of_ble_eq_true rfl)⟩) hP hD hS hA [2, 4, 0, 1] [3] rfl rfl (by decide +kernel) (by decide +kernel) (fun r7 u7 H locs hp hP hD hS => ?_)
        have hp : (0 ≤ r7.toInt ∧ r7.toInt ≤ 1) := hp
        have hP : va_P G cl [(a7, .inl (cJ, 2160, .inr (.inl g_tr_seen))), (a0, .inr (6, [.ref a1, .ref a2, .ref a3, .int v_tr_3, .ref a4, .ref a5, .int v_tr_6, .int v_tr_7, .int v_tr_8, .ref a6, .int v_tr_10, .ref a7, .ref a8, .ref a9, .ref a10, .int v_tr_15, .int v_tr_16, .int v_tr_17, .int v_tr_18, .int v_tr_19])), (a8, .inl (cJ, 3, .inr (.inl f6))), (a9, .inl (cJ, 3, .inr (.inl g_tr_said))), (a10, .inl (cJ, 3, .inr (.inl g_tr_lies)))] H := hP
        have hD : va_D A [(a7, .inl (cJ, 2160, .inr (.inl g_tr_seen))), (a0, .inr (6, [.ref a1, .ref a2, .ref a3, .int v_tr_3, .ref a4, .ref a5, .int v_tr_6, .int v_tr_7, .int v_tr_8, .ref a6, .int v_tr_10, .ref a7, .ref a8, .ref a9, .ref a10, .int v_tr_15, .int v_tr_16, .int v_tr_17, .int v_tr_18, .int v_tr_19])), (a8, .inl (cJ, 3, .inr (.inl f6))), (a9, .inl (cJ, 3, .inr (.inl g_tr_said))), (a10, .inl (cJ, 3, .inr (.inl g_tr_lies)))] := hD
        have hq7 := hp
        refine lv_if_eq (tgt := 29) hx hb dX6_settlesAtLast_17 (by decide) (fun c8 => ?_) (fun c8 => ?_)
        · have dc8 : r7.toInt = 0 := (fa_eq _ _).mp c8
          obtain ⟨z9, ez9⟩ : ∃ q : Int32, q = x1 + Int32.ofInt 1 := ⟨_, rfl⟩
          have tz9 : z9.toInt = x1.toInt + 1 := by rw [ez9]; exact add_i (y := 1) (by have p_ := i_lo x1; show _ ≤ _ + (1 : Int); omega) (by have q_ := i_hi x1; show _ + (1 : Int) ≤ _; omega)
          refine lv_iinc (v := z9) (lv' := [(2, .int z9), (0, .ref a0), (1, .int b1)]) hx hb dX6_settlesAtLast_29 hl (k := 2) rfl ez9.symm (by decide) rfl (fun ls hl => ?_)
          refine lv_goto (tgt := 2) hx hb dX6_settlesAtLast_32 (by decide) ?_
          exact ih  z9 f6 H locs ls (by omega) (by omega) (hP.subm [1, 0, 2, 3, 4] rfl) (hD.sub [1, 0, 2, 3, 4] (by decide +kernel) rfl) hS (lv_sub hl [1, 2, 0] rfl)
        · have dc8 : r7.toInt ≠ 0 := fa_ne c8
          refine lv_aload_n hx hb dX6_settlesAtLast_20 rfl (lv_at hl 0 rfl) ?_
          refine k_ci (wr := []) (k_rV hC hN hZ hS hA hK hP hD (c111_X6_canSettle l G cI cJ cB cZ a0 a1 a2 a3 a4 a5 a6 a7 a8 a9 a10 v_tr_3 v_tr_6 v_tr_7 v_tr_8 v_tr_10 v_tr_15 v_tr_16 v_tr_17 v_tr_18 v_tr_19 f6 g_tr_seen g_tr_said g_tr_lies hv_2 hv_3 hv_4 hv_5 hv_6 hv_7) [1, 2, 0, 3, 4] rfl (by decide +kernel) mi_X6_canSettle in_X6_canSettle se_X6_canSettle wm_X6_185 6 1 rfl rfl rfl hl.1 rfl rfl (Nat.le_of_ble_eq_true rfl) ⟨(Nat.le_of_ble_eq_true rfl), (Nat.le_of_ble_eq_true rfl)⟩ dX6_settlesAtLast_21 ⟨(Nat.le_of_ble_eq_true rfl), (Nat.le_of_ble_eq_true rfl)⟩) hP hD hS hA [1, 2, 0, 3, 4] [] rfl rfl (by decide +kernel) (by decide +kernel) (fun r10 u10 H locs hp hP hD hS => ?_)
          have hp : (0 ≤ r10.toInt ∧ r10.toInt ≤ 1) := hp
          have hP : va_P G cl [(a0, .inr (6, [.ref a1, .ref a2, .ref a3, .int v_tr_3, .ref a4, .ref a5, .int v_tr_6, .int v_tr_7, .int v_tr_8, .ref a6, .int v_tr_10, .ref a7, .ref a8, .ref a9, .ref a10, .int v_tr_15, .int v_tr_16, .int v_tr_17, .int v_tr_18, .int v_tr_19])), (a8, .inl (cJ, 3, .inr (.inl f6))), (a7, .inl (cJ, 2160, .inr (.inl g_tr_seen))), (a9, .inl (cJ, 3, .inr (.inl g_tr_said))), (a10, .inl (cJ, 3, .inr (.inl g_tr_lies)))] H := hP
          have hD : va_D A [(a0, .inr (6, [.ref a1, .ref a2, .ref a3, .int v_tr_3, .ref a4, .ref a5, .int v_tr_6, .int v_tr_7, .int v_tr_8, .ref a6, .int v_tr_10, .ref a7, .ref a8, .ref a9, .ref a10, .int v_tr_15, .int v_tr_16, .int v_tr_17, .int v_tr_18, .int v_tr_19])), (a8, .inl (cJ, 3, .inr (.inl f6))), (a7, .inl (cJ, 2160, .inr (.inl g_tr_seen))), (a9, .inl (cJ, 3, .inr (.inl g_tr_said))), (a10, .inl (cJ, 3, .inr (.inl g_tr_lies)))] := hD
          have hq10 := hp
          refine lv_if_ne (tgt := 29) hx hb dX6_settlesAtLast_24 (by decide) (fun c11 => ?_) (fun c11 => ?_)
          · have dc11 : r10.toInt ≠ 0 := fa_ne c11
            obtain ⟨z12, ez12⟩ : ∃ q : Int32, q = x1 + Int32.ofInt 1 := ⟨_, rfl⟩
            have tz12 : z12.toInt = x1.toInt + 1 := by rw [ez12]; exact add_i (y := 1) (by have p_ := i_lo x1; show _ ≤ _ + (1 : Int); omega) (by have q_ := i_hi x1; show _ + (1 : Int) ≤ _; omega)
            refine lv_iinc (v := z12) (lv' := [(2, .int z12), (0, .ref a0), (1, .int b1)]) hx hb dX6_settlesAtLast_29 hl (k := 2) rfl ez12.symm (by decide) rfl (fun ls hl => ?_)
            refine lv_goto (tgt := 2) hx hb dX6_settlesAtLast_32 (by decide) ?_
            exact ih  z12 f6 H locs ls (by omega) (by omega) (hP.subm [0, 2, 1, 3, 4] rfl) (hD.sub [0, 2, 1, 3, 4] (by decide +kernel) rfl) hS (lv_sub hl [1, 2, 0] rfl)
          · have dc11 : r10.toInt = 0 := (fa_eq _ _).mp c11
            refine lv_iconst (v := 0) hx hb dX6_settlesAtLast_27 (by decide) ?_
            have l_l13 : (0 : Int32).toInt = 0 := rfl
            rw [← hQm]
            exact k_zret hC hr hlk hK hP hD hS f6 [0, 2, 1, 3, 4] rfl (by decide +kernel) rfl (show 0 ≤ (0 : Int32).toInt ∧ (0 : Int32).toInt ≤ 1 from by omega) (Nat.le_of_ble_eq_true rfl) (Nat.le_of_ble_eq_true rfl) dX6_settlesAtLast_28
  have l_l14 : (0 : Int32).toInt = 0 := rfl
  exact L_2 4 0 g_tr_part H locs ls (by omega) (by omega) (hP.subm [0, 1, 2, 3, 4] rfl) (hD.sub [0, 1, 2, 3, 4] (by decide +kernel) rfl) hS (lv_sub hl [1, 2, 0] rfl)
theorem dX6_seekFirst_0 : decode cX6_seekFirst 0 = .ok (.iconst 0, 1) := by decide +kernel
theorem dX6_seekFirst_1 : decode cX6_seekFirst 1 = .ok (.istore_n 2, 1) := by decide +kernel
theorem dX6_seekFirst_2 : decode cX6_seekFirst 2 = .ok (.iload_n 2, 1) := by decide +kernel
theorem dX6_seekFirst_3 : decode cX6_seekFirst 3 = .ok (.aload_n 0, 1) := by decide +kernel
theorem dX6_seekFirst_4 : decode cX6_seekFirst 4 = .ok (.getfield 43, 3) := by decide +kernel
theorem dX6_seekFirst_7 : decode cX6_seekFirst 7 = .ok (.if_icmp .ge 54, 3) := by decide +kernel
theorem dX6_seekFirst_61 : decode cX6_seekFirst 61 = .ok (.iconst 0, 1) := by decide +kernel
theorem dX6_seekFirst_62 : decode cX6_seekFirst 62 = .ok (.ireturn, 1) := by decide +kernel
theorem dX6_seekFirst_10 : decode cX6_seekFirst 10 = .ok (.aload_n 0, 1) := by decide +kernel
theorem dX6_seekFirst_11 : decode cX6_seekFirst 11 = .ok (.invokevirtual 152, 3) := by decide +kernel
set_option maxRecDepth 100000 in
theorem wm_X6_152 : Cond.methodLink RX6 152 yX6_takeAll ∈ gw := gm (List.mem_of_getElem? (i := 1111) (by decide +kernel)) rfl
set_option maxRecDepth 100000 in
theorem mi_X6_takeAll : MI yX6_takeAll cX6_takeAll 2 none 0 := ⟨gm (List.mem_of_getElem? (i := 1114) rfl) rfl, gm (List.mem_of_getElem? (i := 122) (by decide +kernel)) rfl, by decide, by decide, by decide +kernel⟩
set_option maxRecDepth 100000 in
theorem in_X6_takeAll : Cond.instanceMethod yX6_takeAll ∈ gw := gm (List.mem_of_getElem? (i := 1113) (by decide +kernel)) rfl
set_option maxRecDepth 100000 in
theorem se_X6_takeAll : Cond.selects yX6_takeAll.cls yX6_takeAll yX6_takeAll ∈ gw := gm (List.mem_of_getElem? (i := 45) (by decide +kernel)) rfl
theorem dX6_seekFirst_14 : decode cX6_seekFirst 14 = .ok (.iload_n 1, 1) := by decide +kernel
theorem dX6_seekFirst_15 : decode cX6_seekFirst 15 = .ok (.iconst 1, 1) := by decide +kernel
theorem dX6_seekFirst_16 : decode cX6_seekFirst 16 = .ok (.if_icmp .ne 14, 3) := by decide +kernel
theorem dX6_seekFirst_30 : decode cX6_seekFirst 30 = .ok (.aload_n 0, 1) := by decide +kernel
theorem dX6_seekFirst_31 : decode cX6_seekFirst 31 = .ok (.iload_n 2, 1) := by decide +kernel
theorem dX6_seekFirst_32 : decode cX6_seekFirst 32 = .ok (.invokevirtual 166, 3) := by decide +kernel
set_option maxRecDepth 100000 in
theorem wm_X6_166 : Cond.methodLink RX6 166 yX6_settlesAtLast ∈ gw := gm (List.mem_of_getElem? (i := 1127) (by decide +kernel)) rfl
set_option maxRecDepth 100000 in
theorem mi_X6_settlesAtLast : MI yX6_settlesAtLast cX6_settlesAtLast 3 (some .boolean) 1 := ⟨gm (List.mem_of_getElem? (i := 1130) rfl) rfl, gm (List.mem_of_getElem? (i := 122) (by decide +kernel)) rfl, by decide, by decide, by decide +kernel⟩
set_option maxRecDepth 100000 in
theorem in_X6_settlesAtLast : Cond.instanceMethod yX6_settlesAtLast ∈ gw := gm (List.mem_of_getElem? (i := 1129) (by decide +kernel)) rfl
set_option maxRecDepth 100000 in
theorem se_X6_settlesAtLast : Cond.selects yX6_settlesAtLast.cls yX6_settlesAtLast yX6_settlesAtLast ∈ gw := gm (List.mem_of_getElem? (i := 49) (by decide +kernel)) rfl
theorem dX6_seekFirst_35 : decode cX6_seekFirst 35 = .ok (.ifCond .eq 20, 3) := by decide +kernel
theorem dX6_seekFirst_55 : decode cX6_seekFirst 55 = .ok (.iinc 2 1, 3) := by decide +kernel
theorem dX6_seekFirst_58 : decode cX6_seekFirst 58 = .ok (.goto (-56), 3) := by decide +kernel
theorem dX6_seekFirst_38 : decode cX6_seekFirst 38 = .ok (.aload_n 0, 1) := by decide +kernel
theorem dX6_seekFirst_39 : decode cX6_seekFirst 39 = .ok (.iload_n 1, 1) := by decide +kernel
theorem dX6_seekFirst_40 : decode cX6_seekFirst 40 = .ok (.putfield 68, 3) := by decide +kernel
set_option maxRecDepth 100000 in
theorem wf_X6_68 : Cond.fieldLink RX6 68 "StoneTrust$Trials" "clearCount" "I" ∈ gw := gm (List.mem_of_getElem? (i := 472) (by decide +kernel)) rfl
theorem dX6_seekFirst_43 : decode cX6_seekFirst 43 = .ok (.aload_n 0, 1) := by decide +kernel
theorem dX6_seekFirst_44 : decode cX6_seekFirst 44 = .ok (.aload_n 0, 1) := by decide +kernel
theorem dX6_seekFirst_45 : decode cX6_seekFirst 45 = .ok (.getfield 40, 3) := by decide +kernel
set_option maxRecDepth 100000 in
theorem wf_X6_40 : Cond.fieldLink RX6 40 "StoneTrust$Trials" "small" "[I" ∈ gw := gm (List.mem_of_getElem? (i := 463) (by decide +kernel)) rfl
theorem dX6_seekFirst_48 : decode cX6_seekFirst 48 = .ok (.iload_n 2, 1) := by decide +kernel
theorem dX6_seekFirst_49 : decode cX6_seekFirst 49 = .ok (.iaload, 1) := by decide +kernel
theorem dX6_seekFirst_50 : decode cX6_seekFirst 50 = .ok (.putfield 71, 3) := by decide +kernel
set_option maxRecDepth 100000 in
theorem wf_X6_71 : Cond.fieldLink RX6 71 "StoneTrust$Trials" "clearCode" "I" ∈ gw := gm (List.mem_of_getElem? (i := 474) (by decide +kernel)) rfl
theorem dX6_seekFirst_53 : decode cX6_seekFirst 53 = .ok (.iconst 1, 1) := by decide +kernel
theorem dX6_seekFirst_54 : decode cX6_seekFirst 54 = .ok (.ireturn, 1) := by decide +kernel
theorem dX6_seekFirst_19 : decode cX6_seekFirst 19 = .ok (.aload_n 0, 1) := by decide +kernel
theorem dX6_seekFirst_20 : decode cX6_seekFirst 20 = .ok (.iload_n 2, 1) := by decide +kernel
theorem dX6_seekFirst_21 : decode cX6_seekFirst 21 = .ok (.invokevirtual 163, 3) := by decide +kernel
theorem dX6_seekFirst_24 : decode cX6_seekFirst 24 = .ok (.ifCond .eq 31, 3) := by decide +kernel
theorem dX6_seekFirst_27 : decode cX6_seekFirst 27 = .ok (.goto 11, 3) := by decide +kernel
set_option maxHeartbeats 4000000 in
set_option maxRecDepth 100000 in
theorem c113_X6_seekFirst (l : Launch) (G : va_G) (cI cJ cB cZ : ClassId) (a0 a1 a2 a3 a4 a5 a6 a7 a8 a9 a10 : Nat) (b1 : Int32) (v_tr_3 : Int32) (v_tr_6 : Int32) (v_tr_7 : Int32) (v_tr_8 : Int32) (v_tr_10 : Int32) (v_tr_15 : Int32) (v_tr_16 : Int32) (v_tr_17 : Int32) (v_tr_18 : Int32) (v_tr_19 : Int32) (g_tr_said : Nat → Int64) (g_tr_lies : Nat → Int64) (g_tr_part : Nat → Int64) (g_tr_seen : Nat → Int64) (g_tr_small : Nat → Int32) (hv_0 : 0 ≤ v_tr_3.toInt) (hv_1 : v_tr_3.toInt ≤ 729) (hv_2 : 0 ≤ v_tr_10.toInt) (hv_3 : v_tr_10.toInt ≤ 240) (hv_4 : 0 ≤ v_tr_15.toInt) (hv_5 : v_tr_15.toInt ≤ 3) (hT_g_tr_small : TA 0 728 g_tr_small) : Con l G (TY cI cJ cB cZ) yX6_seekFirst cX6_seekFirst 3 (some .boolean) ({ frames := 4, cells := 0, slots := 0, locals := 94 } : Room) [.ref a0, .int b1] [(a0, .inr (6, [.ref a1, .ref a2, .ref a3, .int v_tr_3, .ref a4, .ref a5, .int v_tr_6, .int v_tr_7, .int v_tr_8, .ref a6, .int v_tr_10, .ref a7, .ref a8, .ref a9, .ref a10, .int v_tr_15, .int v_tr_16, .int v_tr_17, .int v_tr_18, .int v_tr_19])), (a9, .inl (cJ, 3, .inr (.inl g_tr_said))), (a10, .inl (cJ, 3, .inr (.inl g_tr_lies))), (a8, .inl (cJ, 3, .inr (.inl g_tr_part))), (a7, .inl (cJ, 2160, .inr (.inl g_tr_seen))), (a6, .inl (cI, 240, .inl g_tr_small))] (QI G (TY cI cJ cB cZ) (fun (r : Int32) (u : Int32 × Int32 × (Nat → Int64)) => (0 ≤ r.toInt ∧ r.toInt ≤ 1)) (fun u : Int32 × Int32 × (Nat → Int64) => [(a0, .inr (6, [.ref a1, .ref a2, .ref a3, .int v_tr_3, .ref a4, .ref a5, .int v_tr_6, .int v_tr_7, .int v_tr_8, .ref a6, .int v_tr_10, .ref a7, .ref a8, .ref a9, .ref a10, .int v_tr_15, .int v_tr_16, .int v_tr_17, .int u.1, .int u.2.1])), (a9, .inl (cJ, 3, .inr (.inl g_tr_said))), (a10, .inl (cJ, 3, .inr (.inl g_tr_lies))), (a8, .inl (cJ, 3, .inr (.inl u.2.2))), (a7, .inl (cJ, 2160, .inr (.inl g_tr_seen))), (a6, .inl (cI, 240, .inl g_tr_small))])) := by
  refine k_met (by decide) (Nat.le_of_ble_eq_true rfl) ?_
  intro p e s m below meth c A ls hC hr hlk hnm hN hZ hK hA hP hD hS hl
  have hl : lv_has ls 3 [(0, .ref a0), (1, .int b1)] := hl
  generalize hQm : MQ below _ _ s _ _ A = Qm
  generalize (List.toArray _ : Array Value) = args at hC hQm ⊢
  obtain ⟨hx, hb, hml, hown, hts⟩ := id hC
  obtain ⟨H, hH⟩ : ∃ q, q = s.heap := ⟨_, rfl⟩
  obtain ⟨locs, hlo⟩ : ∃ q : List Loc, q = [] := ⟨_, rfl⟩
  have hP : va_P G cl [(a0, .inr (6, [.ref a1, .ref a2, .ref a3, .int v_tr_3, .ref a4, .ref a5, .int v_tr_6, .int v_tr_7, .int v_tr_8, .ref a6, .int v_tr_10, .ref a7, .ref a8, .ref a9, .ref a10, .int v_tr_15, .int v_tr_16, .int v_tr_17, .int v_tr_18, .int v_tr_19])), (a9, .inl (cJ, 3, .inr (.inl g_tr_said))), (a10, .inl (cJ, 3, .inr (.inl g_tr_lies))), (a8, .inl (cJ, 3, .inr (.inl g_tr_part))), (a7, .inl (cJ, 2160, .inr (.inl g_tr_seen))), (a6, .inl (cI, 240, .inl g_tr_small))] H := by rw [hH]; exact hP
  have hS : va_S A s.heap H locs := by rw [hH, hlo]; exact hS
  rw [← hlo]
  rw [← hH]
  refine lv_iconst (v := 0) hx hb dX6_seekFirst_0 (by decide) ?_
  refine lv_istore_n (lv' := [(2, .int 0), (0, .ref a0), (1, .int b1)]) hx hb dX6_seekFirst_1 rfl hl (by decide) rfl (fun ls hl => ?_)
  have L_2 : ∀ (n : Nat) (x1 : Int32) (f2 : Nat → Int64) (H : Heap) (locs : List Loc) (ls : Array Slot), (0 ≤ x1.toInt ∧ x1.toInt ≤ 240) → 240 - x1.toInt < (n : Int) → va_P G cl [(a0, .inr (6, [.ref a1, .ref a2, .ref a3, .int v_tr_3, .ref a4, .ref a5, .int v_tr_6, .int v_tr_7, .int v_tr_8, .ref a6, .int v_tr_10, .ref a7, .ref a8, .ref a9, .ref a10, .int v_tr_15, .int v_tr_16, .int v_tr_17, .int v_tr_18, .int v_tr_19])), (a9, .inl (cJ, 3, .inr (.inl g_tr_said))), (a10, .inl (cJ, 3, .inr (.inl g_tr_lies))), (a8, .inl (cJ, 3, .inr (.inl f2))), (a7, .inl (cJ, 2160, .inr (.inl g_tr_seen))), (a6, .inl (cI, 240, .inl g_tr_small))] H → va_D A [(a0, .inr (6, [.ref a1, .ref a2, .ref a3, .int v_tr_3, .ref a4, .ref a5, .int v_tr_6, .int v_tr_7, .int v_tr_8, .ref a6, .int v_tr_10, .ref a7, .ref a8, .ref a9, .ref a10, .int v_tr_15, .int v_tr_16, .int v_tr_17, .int v_tr_18, .int v_tr_19])), (a9, .inl (cJ, 3, .inr (.inl g_tr_said))), (a10, .inl (cJ, 3, .inr (.inl g_tr_lies))), (a8, .inl (cJ, 3, .inr (.inl f2))), (a7, .inl (cJ, 2160, .inr (.inl g_tr_seen))), (a6, .inl (cI, 240, .inl g_tr_small))] → va_S A s.heap H locs → lv_has ls 3 [(0, .ref a0), (1, .int b1), (2, .int x1)] → W p l e ({ frames := 4, cells := 0, slots := 0, locals := 94 } : Room) s m args below meth c H locs 0 0 Qm (F0 m 2 ls []) := by
    intro n
    induction n with
    | zero => intro x1 f2 H locs ls hv hm; omega
    | succ n ih =>
      intro x1 f2 H locs ls hv hm hP hD hS hl
      refine lv_iload_n hx hb dX6_seekFirst_2 rfl (lv_at hl 2 rfl) ?_
      refine lv_aload_n hx hb dX6_seekFirst_3 rfl (lv_at hl 0 rfl) ?_
      refine k_get hC hK hP iX6 0 10 wf_X6_43 rfl (by decide) rfl rfl dX6_seekFirst_4 ?_
      refine lv_icmp_ge (tgt := 61) hx hb dX6_seekFirst_7 (by decide) (fun c3 => ?_) (fun c3 => ?_)
      · have dc3 : v_tr_10.toInt ≤ x1.toInt := (fa_le _ _).mp c3
        refine lv_iconst (v := 0) hx hb dX6_seekFirst_61 (by decide) ?_
        have l_l4 : (0 : Int32).toInt = 0 := rfl
        rw [← hQm]
        exact k_zret hC hr hlk hK hP hD hS (v_tr_18, v_tr_19, f2) [0, 1, 2, 3, 4, 5] rfl (by decide +kernel) rfl (show 0 ≤ (0 : Int32).toInt ∧ (0 : Int32).toInt ≤ 1 from by omega) (Nat.le_of_ble_eq_true rfl) (Nat.le_of_ble_eq_true rfl) dX6_seekFirst_62
      · have dc3 : x1.toInt < v_tr_10.toInt := fa_nle c3
        refine lv_aload_n hx hb dX6_seekFirst_10 rfl (lv_at hl 0 rfl) ?_
        refine k_cv (wr := [(a7, .inl (cJ, 2160, .inr (.inl g_tr_seen))), (a6, .inl (cI, 240, .inl g_tr_small))]) (k_rV hC hN hZ hS hA hK hP hD (c106_X6_takeAll l G cI cJ cB cZ a0 a1 a2 a3 a4 a5 a6 a7 a8 a9 a10 v_tr_3 v_tr_6 v_tr_7 v_tr_8 v_tr_10 v_tr_15 v_tr_16 v_tr_17 v_tr_18 v_tr_19 g_tr_said g_tr_lies f2 hv_0 hv_1 hv_2 hv_3 hv_4 hv_5) [0, 1, 2, 3] rfl (by decide +kernel) mi_X6_takeAll in_X6_takeAll se_X6_takeAll wm_X6_152 6 0 rfl rfl rfl hl.1 rfl rfl (Nat.le_of_ble_eq_true rfl) ⟨(Nat.le_of_ble_eq_true rfl), (Nat.le_of_ble_eq_true rfl)⟩ dX6_seekFirst_11 ⟨(Nat.le_of_ble_eq_true rfl), (Nat.le_of_ble_eq_true rfl)⟩) hP hD hS hA [0, 1, 2, 3] [4, 5] rfl rfl (by decide +kernel) (by decide +kernel) (fun u5 H locs hp hP hD hS => ?_)
        obtain ⟨f6, ef6⟩ : ∃ q, q = u5 := ⟨_, rfl⟩
        subst ef6
        have hp : (True) := hp
        have hP : va_P G cl [(a7, .inl (cJ, 2160, .inr (.inl g_tr_seen))), (a6, .inl (cI, 240, .inl g_tr_small)), (a0, .inr (6, [.ref a1, .ref a2, .ref a3, .int v_tr_3, .ref a4, .ref a5, .int v_tr_6, .int v_tr_7, .int v_tr_8, .ref a6, .int v_tr_10, .ref a7, .ref a8, .ref a9, .ref a10, .int v_tr_15, .int v_tr_16, .int v_tr_17, .int v_tr_18, .int v_tr_19])), (a9, .inl (cJ, 3, .inr (.inl g_tr_said))), (a10, .inl (cJ, 3, .inr (.inl g_tr_lies))), (a8, .inl (cJ, 3, .inr (.inl f6)))] H := hP
        have hD : va_D A [(a7, .inl (cJ, 2160, .inr (.inl g_tr_seen))), (a6, .inl (cI, 240, .inl g_tr_small)), (a0, .inr (6, [.ref a1, .ref a2, .ref a3, .int v_tr_3, .ref a4, .ref a5, .int v_tr_6, .int v_tr_7, .int v_tr_8, .ref a6, .int v_tr_10, .ref a7, .ref a8, .ref a9, .ref a10, .int v_tr_15, .int v_tr_16, .int v_tr_17, .int v_tr_18, .int v_tr_19])), (a9, .inl (cJ, 3, .inr (.inl g_tr_said))), (a10, .inl (cJ, 3, .inr (.inl g_tr_lies))), (a8, .inl (cJ, 3, .inr (.inl f6)))] := hD
        have hq5 := hp
        refine lv_iload_n hx hb dX6_seekFirst_14 rfl (lv_at hl 1 rfl) ?_
        refine lv_iconst (v := 1) hx hb dX6_seekFirst_15 (by decide) ?_
        refine lv_icmp_ne (tgt := 30) hx hb dX6_seekFirst_16 (by decide) (fun c7 => ?_) (fun c7 => ?_)
        · have dc7 : b1.toInt ≠ 1 := fa_ne c7; have lbc7_0 := i_lo b1; have ubc7_0 := i_hi b1
          refine lv_aload_n hx hb dX6_seekFirst_30 rfl (lv_at hl 0 rfl) ?_
          refine lv_iload_n hx hb dX6_seekFirst_31 rfl (lv_at hl 2 rfl) ?_
          refine k_ci (wr := [(a6, .inl (cI, 240, .inl g_tr_small))]) (k_rV hC hN hZ hS hA hK hP hD (c112_X6_settlesAtLast l G cI cJ cB cZ a0 a1 a2 a3 a4 a5 a6 a7 a8 a9 a10 x1 v_tr_3 v_tr_6 v_tr_7 v_tr_8 v_tr_10 v_tr_15 v_tr_16 v_tr_17 v_tr_18 v_tr_19 g_tr_seen f6 g_tr_said g_tr_lies (by omega) (by omega) hv_0 hv_1 hv_2 hv_3 hv_4 hv_5) [2, 0, 5, 3, 4] rfl (by decide +kernel) mi_X6_settlesAtLast in_X6_settlesAtLast se_X6_settlesAtLast wm_X6_166 6 2 rfl rfl rfl hl.1 rfl rfl (Nat.le_of_ble_eq_true rfl) ⟨(Nat.le_of_ble_eq_true rfl), (Nat.le_of_ble_eq_true rfl)⟩ dX6_seekFirst_32 ⟨(Nat.le_of_ble_eq_true rfl), (Nat.le_of_ble_eq_true rfl)⟩) hP hD hS hA [2, 0, 5, 3, 4] [1] rfl rfl (by decide +kernel) (by decide +kernel) (fun r8 u8 H locs hp hP hD hS => ?_)
          obtain ⟨f9, ef9⟩ : ∃ q, q = u8 := ⟨_, rfl⟩
          subst ef9
          have hp : (0 ≤ r8.toInt ∧ r8.toInt ≤ 1) := hp
          have hP : va_P G cl [(a6, .inl (cI, 240, .inl g_tr_small)), (a0, .inr (6, [.ref a1, .ref a2, .ref a3, .int v_tr_3, .ref a4, .ref a5, .int v_tr_6, .int v_tr_7, .int v_tr_8, .ref a6, .int v_tr_10, .ref a7, .ref a8, .ref a9, .ref a10, .int v_tr_15, .int v_tr_16, .int v_tr_17, .int v_tr_18, .int v_tr_19])), (a7, .inl (cJ, 2160, .inr (.inl g_tr_seen))), (a8, .inl (cJ, 3, .inr (.inl f9))), (a9, .inl (cJ, 3, .inr (.inl g_tr_said))), (a10, .inl (cJ, 3, .inr (.inl g_tr_lies)))] H := hP
          have hD : va_D A [(a6, .inl (cI, 240, .inl g_tr_small)), (a0, .inr (6, [.ref a1, .ref a2, .ref a3, .int v_tr_3, .ref a4, .ref a5, .int v_tr_6, .int v_tr_7, .int v_tr_8, .ref a6, .int v_tr_10, .ref a7, .ref a8, .ref a9, .ref a10, .int v_tr_15, .int v_tr_16, .int v_tr_17, .int v_tr_18, .int v_tr_19])), (a7, .inl (cJ, 2160, .inr (.inl g_tr_seen))), (a8, .inl (cJ, 3, .inr (.inl f9))), (a9, .inl (cJ, 3, .inr (.inl g_tr_said))), (a10, .inl (cJ, 3, .inr (.inl g_tr_lies)))] := hD
          have hq8 := hp
          refine lv_if_eq (tgt := 55) hx hb dX6_seekFirst_35 (by decide) (fun c10 => ?_) (fun c10 => ?_)
          · have dc10 : r8.toInt = 0 := (fa_eq _ _).mp c10
            obtain ⟨z11, ez11⟩ : ∃ q : Int32, q = x1 + Int32.ofInt 1 := ⟨_, rfl⟩
            have tz11 : z11.toInt = x1.toInt + 1 := by rw [ez11]; exact add_i (y := 1) (by have p_ := i_lo x1; show _ ≤ _ + (1 : Int); omega) (by have q_ := i_hi x1; show _ + (1 : Int) ≤ _; omega)
            refine lv_iinc (v := z11) (lv' := [(2, .int z11), (0, .ref a0), (1, .int b1)]) hx hb dX6_seekFirst_55 hl (k := 2) rfl ez11.symm (by decide) rfl (fun ls hl => ?_)
            refine lv_goto (tgt := 2) hx hb dX6_seekFirst_58 (by decide) ?_
            exact ih  z11 f9 H locs ls (by omega) (by omega) (hP.subm [1, 4, 5, 3, 2, 0] rfl) (hD.sub [1, 4, 5, 3, 2, 0] (by decide +kernel) rfl) hS (lv_sub hl [1, 2, 0] rfl)
          · have dc10 : r8.toInt ≠ 0 := fa_ne c10
            refine lv_aload_n hx hb dX6_seekFirst_38 rfl (lv_at hl 0 rfl) ?_
            refine lv_iload_n hx hb dX6_seekFirst_39 rfl (lv_at hl 1 rfl) ?_
            refine k_put hC hK hP hD hS iX6 tyX6_ok nmX6 1 18 wf_X6_68 rfl (by decide) rfl rfl rfl rfl (Nat.le_of_ble_eq_true rfl) dX6_seekFirst_40 (fun H locs hP hD hS => ?_)
            have hP : va_P G cl [(a6, .inl (cI, 240, .inl g_tr_small)), (a0, .inr (6, [.ref a1, .ref a2, .ref a3, .int v_tr_3, .ref a4, .ref a5, .int v_tr_6, .int v_tr_7, .int v_tr_8, .ref a6, .int v_tr_10, .ref a7, .ref a8, .ref a9, .ref a10, .int v_tr_15, .int v_tr_16, .int v_tr_17, .int b1, .int v_tr_19])), (a7, .inl (cJ, 2160, .inr (.inl g_tr_seen))), (a8, .inl (cJ, 3, .inr (.inl f9))), (a9, .inl (cJ, 3, .inr (.inl g_tr_said))), (a10, .inl (cJ, 3, .inr (.inl g_tr_lies)))] H := hP
            have hD : va_D A [(a6, .inl (cI, 240, .inl g_tr_small)), (a0, .inr (6, [.ref a1, .ref a2, .ref a3, .int v_tr_3, .ref a4, .ref a5, .int v_tr_6, .int v_tr_7, .int v_tr_8, .ref a6, .int v_tr_10, .ref a7, .ref a8, .ref a9, .ref a10, .int v_tr_15, .int v_tr_16, .int v_tr_17, .int b1, .int v_tr_19])), (a7, .inl (cJ, 2160, .inr (.inl g_tr_seen))), (a8, .inl (cJ, 3, .inr (.inl f9))), (a9, .inl (cJ, 3, .inr (.inl g_tr_said))), (a10, .inl (cJ, 3, .inr (.inl g_tr_lies)))] := hD
            refine lv_aload_n hx hb dX6_seekFirst_43 rfl (lv_at hl 0 rfl) ?_
            refine lv_aload_n hx hb dX6_seekFirst_44 rfl (lv_at hl 0 rfl) ?_
            refine k_get hC hK hP iX6 1 9 wf_X6_40 rfl (by decide) rfl rfl dX6_seekFirst_45 ?_
            refine lv_iload_n hx hb dX6_seekFirst_48 rfl (lv_at hl 2 rfl) ?_
            refine t_iald hC hK hP 0 rfl (by omega) (by omega) hT_g_tr_small dX6_seekFirst_49 (fun z12 tz12 => ?_)
            refine k_put hC hK hP hD hS iX6 tyX6_ok nmX6 1 19 wf_X6_71 rfl (by decide) rfl rfl rfl rfl (Nat.le_of_ble_eq_true rfl) dX6_seekFirst_50 (fun H locs hP hD hS => ?_)
            have hP : va_P G cl [(a6, .inl (cI, 240, .inl g_tr_small)), (a0, .inr (6, [.ref a1, .ref a2, .ref a3, .int v_tr_3, .ref a4, .ref a5, .int v_tr_6, .int v_tr_7, .int v_tr_8, .ref a6, .int v_tr_10, .ref a7, .ref a8, .ref a9, .ref a10, .int v_tr_15, .int v_tr_16, .int v_tr_17, .int b1, .int z12])), (a7, .inl (cJ, 2160, .inr (.inl g_tr_seen))), (a8, .inl (cJ, 3, .inr (.inl f9))), (a9, .inl (cJ, 3, .inr (.inl g_tr_said))), (a10, .inl (cJ, 3, .inr (.inl g_tr_lies)))] H := hP
            have hD : va_D A [(a6, .inl (cI, 240, .inl g_tr_small)), (a0, .inr (6, [.ref a1, .ref a2, .ref a3, .int v_tr_3, .ref a4, .ref a5, .int v_tr_6, .int v_tr_7, .int v_tr_8, .ref a6, .int v_tr_10, .ref a7, .ref a8, .ref a9, .ref a10, .int v_tr_15, .int v_tr_16, .int v_tr_17, .int b1, .int z12])), (a7, .inl (cJ, 2160, .inr (.inl g_tr_seen))), (a8, .inl (cJ, 3, .inr (.inl f9))), (a9, .inl (cJ, 3, .inr (.inl g_tr_said))), (a10, .inl (cJ, 3, .inr (.inl g_tr_lies)))] := hD
            refine lv_iconst (v := 1) hx hb dX6_seekFirst_53 (by decide) ?_
            have l_l13 : (1 : Int32).toInt = 1 := rfl
            rw [← hQm]
            exact k_zret hC hr hlk hK hP hD hS (b1, z12, f9) [1, 4, 5, 3, 2, 0] rfl (by decide +kernel) rfl (show 0 ≤ (1 : Int32).toInt ∧ (1 : Int32).toInt ≤ 1 from by omega) (Nat.le_of_ble_eq_true rfl) (Nat.le_of_ble_eq_true rfl) dX6_seekFirst_54
        · have dc7 : b1.toInt = 1 := (fa_eq _ _).mp c7; have lbc7_0 := i_lo b1; have ubc7_0 := i_hi b1
          refine lv_aload_n hx hb dX6_seekFirst_19 rfl (lv_at hl 0 rfl) ?_
          refine lv_iload_n hx hb dX6_seekFirst_20 rfl (lv_at hl 2 rfl) ?_
          refine k_ci (wr := [(a6, .inl (cI, 240, .inl g_tr_small))]) (k_rV hC hN hZ hS hA hK hP hD (c110_X6_settles l G cI cJ cB cZ a0 a1 a2 a3 a4 a5 a6 a7 a8 a9 a10 x1 v_tr_3 v_tr_6 v_tr_7 v_tr_8 v_tr_10 v_tr_15 v_tr_16 v_tr_17 v_tr_18 v_tr_19 f6 g_tr_seen g_tr_said g_tr_lies (by omega) (by omega) hv_0 hv_1 hv_2 hv_3 hv_4 hv_5) [2, 5, 0, 3, 4] rfl (by decide +kernel) mi_X6_settles in_X6_settles se_X6_settles wm_X6_163 6 2 rfl rfl rfl hl.1 rfl rfl (Nat.le_of_ble_eq_true rfl) ⟨(Nat.le_of_ble_eq_true rfl), (Nat.le_of_ble_eq_true rfl)⟩ dX6_seekFirst_21 ⟨(Nat.le_of_ble_eq_true rfl), (Nat.le_of_ble_eq_true rfl)⟩) hP hD hS hA [2, 5, 0, 3, 4] [1] rfl rfl (by decide +kernel) (by decide +kernel) (fun r14 u14 H locs hp hP hD hS => ?_)
          have hp : (0 ≤ r14.toInt ∧ r14.toInt ≤ 1) := hp
          have hP : va_P G cl [(a6, .inl (cI, 240, .inl g_tr_small)), (a0, .inr (6, [.ref a1, .ref a2, .ref a3, .int v_tr_3, .ref a4, .ref a5, .int v_tr_6, .int v_tr_7, .int v_tr_8, .ref a6, .int v_tr_10, .ref a7, .ref a8, .ref a9, .ref a10, .int v_tr_15, .int v_tr_16, .int v_tr_17, .int v_tr_18, .int v_tr_19])), (a8, .inl (cJ, 3, .inr (.inl f6))), (a7, .inl (cJ, 2160, .inr (.inl g_tr_seen))), (a9, .inl (cJ, 3, .inr (.inl g_tr_said))), (a10, .inl (cJ, 3, .inr (.inl g_tr_lies)))] H := hP
          have hD : va_D A [(a6, .inl (cI, 240, .inl g_tr_small)), (a0, .inr (6, [.ref a1, .ref a2, .ref a3, .int v_tr_3, .ref a4, .ref a5, .int v_tr_6, .int v_tr_7, .int v_tr_8, .ref a6, .int v_tr_10, .ref a7, .ref a8, .ref a9, .ref a10, .int v_tr_15, .int v_tr_16, .int v_tr_17, .int v_tr_18, .int v_tr_19])), (a8, .inl (cJ, 3, .inr (.inl f6))), (a7, .inl (cJ, 2160, .inr (.inl g_tr_seen))), (a9, .inl (cJ, 3, .inr (.inl g_tr_said))), (a10, .inl (cJ, 3, .inr (.inl g_tr_lies)))] := hD
          have hq14 := hp
          refine lv_if_eq (tgt := 55) hx hb dX6_seekFirst_24 (by decide) (fun c15 => ?_) (fun c15 => ?_)
          · have dc15 : r14.toInt = 0 := (fa_eq _ _).mp c15
            obtain ⟨z16, ez16⟩ : ∃ q : Int32, q = x1 + Int32.ofInt 1 := ⟨_, rfl⟩
            have tz16 : z16.toInt = x1.toInt + 1 := by rw [ez16]; exact add_i (y := 1) (by have p_ := i_lo x1; show _ ≤ _ + (1 : Int); omega) (by have q_ := i_hi x1; show _ + (1 : Int) ≤ _; omega)
            refine lv_iinc (v := z16) (lv' := [(2, .int z16), (0, .ref a0), (1, .int b1)]) hx hb dX6_seekFirst_55 hl (k := 2) rfl ez16.symm (by decide) rfl (fun ls hl => ?_)
            refine lv_goto (tgt := 2) hx hb dX6_seekFirst_58 (by decide) ?_
            exact ih  z16 f6 H locs ls (by omega) (by omega) (hP.subm [1, 4, 5, 2, 3, 0] rfl) (hD.sub [1, 4, 5, 2, 3, 0] (by decide +kernel) rfl) hS (lv_sub hl [1, 2, 0] rfl)
          · have dc15 : r14.toInt ≠ 0 := fa_ne c15
            refine lv_goto (tgt := 38) hx hb dX6_seekFirst_27 (by decide) ?_
            refine lv_aload_n hx hb dX6_seekFirst_38 rfl (lv_at hl 0 rfl) ?_
            refine lv_iload_n hx hb dX6_seekFirst_39 rfl (lv_at hl 1 rfl) ?_
            refine k_put hC hK hP hD hS iX6 tyX6_ok nmX6 1 18 wf_X6_68 rfl (by decide) rfl rfl rfl rfl (Nat.le_of_ble_eq_true rfl) dX6_seekFirst_40 (fun H locs hP hD hS => ?_)
            have hP : va_P G cl [(a6, .inl (cI, 240, .inl g_tr_small)), (a0, .inr (6, [.ref a1, .ref a2, .ref a3, .int v_tr_3, .ref a4, .ref a5, .int v_tr_6, .int v_tr_7, .int v_tr_8, .ref a6, .int v_tr_10, .ref a7, .ref a8, .ref a9, .ref a10, .int v_tr_15, .int v_tr_16, .int v_tr_17, .int b1, .int v_tr_19])), (a8, .inl (cJ, 3, .inr (.inl f6))), (a7, .inl (cJ, 2160, .inr (.inl g_tr_seen))), (a9, .inl (cJ, 3, .inr (.inl g_tr_said))), (a10, .inl (cJ, 3, .inr (.inl g_tr_lies)))] H := hP
            have hD : va_D A [(a6, .inl (cI, 240, .inl g_tr_small)), (a0, .inr (6, [.ref a1, .ref a2, .ref a3, .int v_tr_3, .ref a4, .ref a5, .int v_tr_6, .int v_tr_7, .int v_tr_8, .ref a6, .int v_tr_10, .ref a7, .ref a8, .ref a9, .ref a10, .int v_tr_15, .int v_tr_16, .int v_tr_17, .int b1, .int v_tr_19])), (a8, .inl (cJ, 3, .inr (.inl f6))), (a7, .inl (cJ, 2160, .inr (.inl g_tr_seen))), (a9, .inl (cJ, 3, .inr (.inl g_tr_said))), (a10, .inl (cJ, 3, .inr (.inl g_tr_lies)))] := hD
            refine lv_aload_n hx hb dX6_seekFirst_43 rfl (lv_at hl 0 rfl) ?_
            refine lv_aload_n hx hb dX6_seekFirst_44 rfl (lv_at hl 0 rfl) ?_
            refine k_get hC hK hP iX6 1 9 wf_X6_40 rfl (by decide) rfl rfl dX6_seekFirst_45 ?_
            refine lv_iload_n hx hb dX6_seekFirst_48 rfl (lv_at hl 2 rfl) ?_
            refine t_iald hC hK hP 0 rfl (by omega) (by omega) hT_g_tr_small dX6_seekFirst_49 (fun z17 tz17 => ?_)
            refine k_put hC hK hP hD hS iX6 tyX6_ok nmX6 1 19 wf_X6_71 rfl (by decide) rfl rfl rfl rfl (Nat.le_of_ble_eq_true rfl) dX6_seekFirst_50 (fun H locs hP hD hS => ?_)
            have hP : va_P G cl [(a6, .inl (cI, 240, .inl g_tr_small)), (a0, .inr (6, [.ref a1, .ref a2, .ref a3, .int v_tr_3, .ref a4, .ref a5, .int v_tr_6, .int v_tr_7, .int v_tr_8, .ref a6, .int v_tr_10, .ref a7, .ref a8, .ref a9, .ref a10, .int v_tr_15, .int v_tr_16, .int v_tr_17, .int b1, .int z17])), (a8, .inl (cJ, 3, .inr (.inl f6))), (a7, .inl (cJ, 2160, .inr (.inl g_tr_seen))), (a9, .inl (cJ, 3, .inr (.inl g_tr_said))), (a10, .inl (cJ, 3, .inr (.inl g_tr_lies)))] H := hP
            have hD : va_D A [(a6, .inl (cI, 240, .inl g_tr_small)), (a0, .inr (6, [.ref a1, .ref a2, .ref a3, .int v_tr_3, .ref a4, .ref a5, .int v_tr_6, .int v_tr_7, .int v_tr_8, .ref a6, .int v_tr_10, .ref a7, .ref a8, .ref a9, .ref a10, .int v_tr_15, .int v_tr_16, .int v_tr_17, .int b1, .int z17])), (a8, .inl (cJ, 3, .inr (.inl f6))), (a7, .inl (cJ, 2160, .inr (.inl g_tr_seen))), (a9, .inl (cJ, 3, .inr (.inl g_tr_said))), (a10, .inl (cJ, 3, .inr (.inl g_tr_lies)))] := hD
            refine lv_iconst (v := 1) hx hb dX6_seekFirst_53 (by decide) ?_
            have l_l18 : (1 : Int32).toInt = 1 := rfl
            rw [← hQm]
            exact k_zret hC hr hlk hK hP hD hS (b1, z17, f6) [1, 4, 5, 2, 3, 0] rfl (by decide +kernel) rfl (show 0 ≤ (1 : Int32).toInt ∧ (1 : Int32).toInt ≤ 1 from by omega) (Nat.le_of_ble_eq_true rfl) (Nat.le_of_ble_eq_true rfl) dX6_seekFirst_54
  have l_l19 : (0 : Int32).toInt = 0 := rfl
  exact L_2 241 0 g_tr_part H locs ls (by omega) (by omega) (hP.subm [0, 1, 2, 3, 4, 5] rfl) (hD.sub [0, 1, 2, 3, 4, 5] (by decide +kernel) rfl) hS (lv_sub hl [1, 2, 0] rfl)
theorem dX9_feed_0 : decode cX9_feed 0 = .ok (.aload_n 0, 1) := by decide +kernel
theorem dX9_feed_1 : decode cX9_feed 1 = .ok (.getfield 19, 3) := by decide +kernel
set_option maxRecDepth 100000 in
theorem wf_X9_19 : Cond.fieldLink RX9 19 "StoneTrust" "reader" "LStoneTrust$Reader;" ∈ gw := gm (List.mem_of_getElem? (i := 540) (by decide +kernel)) rfl
theorem dX9_feed_4 : decode cX9_feed 4 = .ok (.getfield 65, 3) := by decide +kernel
set_option maxRecDepth 100000 in
theorem wf_X9_65 : Cond.fieldLinkNest RX9 65 "StoneTrust$Reader" "tape" "LStoneTrust$Tape;" "StoneTrust" ∈ nests := nm_ (List.mem_of_getElem? (i := 340) (by decide +kernel)) rfl
theorem dX9_feed_7 : decode cX9_feed 7 = .ok (.astore 6, 2) := by decide +kernel
theorem dX9_feed_9 : decode cX9_feed 9 = .ok (.aload 6, 2) := by decide +kernel
theorem dX9_feed_11 : decode cX9_feed 11 = .ok (.getfield 69, 3) := by decide +kernel
set_option maxRecDepth 100000 in
theorem wf_X9_69 : Cond.fieldLinkNest RX9 69 "StoneTrust$Tape" "length" "I" "StoneTrust" ∈ nests := nm_ (List.mem_of_getElem? (i := 311) (by decide +kernel)) rfl
theorem dX9_feed_14 : decode cX9_feed 14 = .ok (.bipush 20, 2) := by decide +kernel
theorem dX9_feed_16 : decode cX9_feed 16 = .ok (.iadd, 1) := by decide +kernel
theorem dX9_feed_17 : decode cX9_feed 17 = .ok (.sipush 1300, 3) := by decide +kernel
theorem dX9_feed_20 : decode cX9_feed 20 = .ok (.if_icmp .le 5, 3) := by decide +kernel
theorem dX9_feed_25 : decode cX9_feed 25 = .ok (.aload 6, 2) := by decide +kernel
theorem dX9_feed_27 : decode cX9_feed 27 = .ok (.iload_n 1, 1) := by decide +kernel
theorem dX9_feed_28 : decode cX9_feed 28 = .ok (.invokevirtual 74, 3) := by decide +kernel
set_option maxRecDepth 100000 in
theorem wm_X9_74 : Cond.methodLink RX9 74 yX5_putFour ∈ gw := gm (List.mem_of_getElem? (i := 571) (by decide +kernel)) rfl
set_option maxRecDepth 100000 in
theorem mi_X5_putFour : MI yX5_putFour cX5_putFour 3 none 1 := ⟨gm (List.mem_of_getElem? (i := 574) rfl) rfl, gm (List.mem_of_getElem? (i := 119) (by decide +kernel)) rfl, by decide, by decide, by decide +kernel⟩
set_option maxRecDepth 100000 in
theorem in_X5_putFour : Cond.instanceMethod yX5_putFour ∈ gw := gm (List.mem_of_getElem? (i := 572) (by decide +kernel)) rfl
set_option maxRecDepth 100000 in
theorem se_X5_putFour : Cond.selects yX5_putFour.cls yX5_putFour yX5_putFour ∈ gw := gm (List.mem_of_getElem? (i := 573) (by decide +kernel)) rfl
theorem dX9_feed_31 : decode cX9_feed 31 = .ok (.aload 6, 2) := by decide +kernel
theorem dX9_feed_33 : decode cX9_feed 33 = .ok (.iload_n 2, 1) := by decide +kernel
theorem dX9_feed_34 : decode cX9_feed 34 = .ok (.invokevirtual 74, 3) := by decide +kernel
theorem dX9_feed_37 : decode cX9_feed 37 = .ok (.aload 6, 2) := by decide +kernel
theorem dX9_feed_39 : decode cX9_feed 39 = .ok (.iload_n 3, 1) := by decide +kernel
theorem dX9_feed_40 : decode cX9_feed 40 = .ok (.invokevirtual 74, 3) := by decide +kernel
theorem dX9_feed_43 : decode cX9_feed 43 = .ok (.aload 6, 2) := by decide +kernel
theorem dX9_feed_45 : decode cX9_feed 45 = .ok (.iload 4, 2) := by decide +kernel
theorem dX9_feed_47 : decode cX9_feed 47 = .ok (.invokevirtual 74, 3) := by decide +kernel
theorem dX9_feed_50 : decode cX9_feed 50 = .ok (.aload 6, 2) := by decide +kernel
theorem dX9_feed_52 : decode cX9_feed 52 = .ok (.iload 5, 2) := by decide +kernel
theorem dX9_feed_54 : decode cX9_feed 54 = .ok (.invokevirtual 74, 3) := by decide +kernel
theorem dX9_feed_57 : decode cX9_feed 57 = .ok (.aload 6, 2) := by decide +kernel
theorem dX9_feed_59 : decode cX9_feed 59 = .ok (.getfield 69, 3) := by decide +kernel
theorem dX9_feed_62 : decode cX9_feed 62 = .ok (.ireturn, 1) := by decide +kernel
theorem dX9_feed_23 : decode cX9_feed 23 = .ok (.iconst (-1), 1) := by decide +kernel
theorem dX9_feed_24 : decode cX9_feed 24 = .ok (.ireturn, 1) := by decide +kernel
set_option maxHeartbeats 4000000 in
set_option maxRecDepth 100000 in
theorem c114_X9_feed (l : Launch) (G : va_G) (cI cJ cB cZ : ClassId) (a0 a1 a2 a3 a4 a5 a6 a7 a8 a9 a10 : Nat) (b1 : Int32) (b2 : Int32) (b3 : Int32) (b4 : Int32) (b5 : Int32) (v_x_3 : Int32) (v_x_4 : Int32) (v_rd_2 : Int32) (v_rd_3 : Int32) (v_rd_4 : Int32) (v_rd_5 : Int32) (v_rd_6 : Int32) (v_rd_7 : Int32) (v_tp_1 : Int32) (v_tp_2 : Int32) (v_tp_3 : Int32) (v_tp_4 : Int32) (w_tp_5 : Int64) (v_tp_6 : Int32) (g_tp_bytes : Nat → Int32) (hv_0 : 0 ≤ v_rd_3.toInt) (hv_1 : v_rd_3.toInt ≤ 1) (hv_2 : 0 ≤ v_rd_4.toInt) (hv_3 : v_rd_4.toInt ≤ 1) (hv_4 : 0 ≤ v_tp_1.toInt) (hv_5 : v_tp_1.toInt ≤ 1300) (hv_6 : 0 ≤ v_tp_2.toInt) (hv_7 : v_tp_2.toInt ≤ 1300) (hT_g_tp_bytes : TA (-128) 127 g_tp_bytes) : Con l G (TY cI cJ cB cZ) yX9_feed cX9_feed 7 (some .int) ({ frames := 1, cells := 0, slots := 0, locals := 22 } : Room) [.ref a0, .int b1, .int b2, .int b3, .int b4, .int b5] [(a0, .inr (9, [.ref a1, .ref a2, .ref a3, .int v_x_3, .int v_x_4, .ref a4, .ref a5, .ref a6, .ref a7])), (a2, .inr (2, [.ref a8, .ref a9, .int v_rd_2, .int v_rd_3, .int v_rd_4, .int v_rd_5, .int v_rd_6, .int v_rd_7])), (a8, .inr (5, [.ref a10, .int v_tp_1, .int v_tp_2, .int v_tp_3, .int v_tp_4, .long w_tp_5, .int v_tp_6])), (a10, .inl (cB, 1300, .inl g_tp_bytes))] (QI G (TY cI cJ cB cZ) (fun (r : Int32) (u : Int32 × (Nat → Int32)) => ((-1) ≤ r.toInt ∧ r.toInt ≤ 1300 ∧ 0 ≤ u.1.toInt ∧ u.1.toInt ≤ 1300) ∧ TA (-128) 127 u.2) (fun u : Int32 × (Nat → Int32) => [(a0, .inr (9, [.ref a1, .ref a2, .ref a3, .int v_x_3, .int v_x_4, .ref a4, .ref a5, .ref a6, .ref a7])), (a2, .inr (2, [.ref a8, .ref a9, .int v_rd_2, .int v_rd_3, .int v_rd_4, .int v_rd_5, .int v_rd_6, .int v_rd_7])), (a8, .inr (5, [.ref a10, .int u.1, .int v_tp_2, .int v_tp_3, .int v_tp_4, .long w_tp_5, .int v_tp_6])), (a10, .inl (cB, 1300, .inl u.2))])) := by
  refine k_met (by decide) (Nat.le_of_ble_eq_true rfl) ?_
  intro p e s m below meth c A ls hC hr hlk hnm hN hZ hK hA hP hD hS hl
  have hl : lv_has ls 7 [(0, .ref a0), (1, .int b1), (2, .int b2), (3, .int b3), (4, .int b4), (5, .int b5)] := hl
  generalize hQm : MQ below _ _ s _ _ A = Qm
  generalize (List.toArray _ : Array Value) = args at hC hQm ⊢
  obtain ⟨hx, hb, hml, hown, hts⟩ := id hC
  obtain ⟨H, hH⟩ : ∃ q, q = s.heap := ⟨_, rfl⟩
  obtain ⟨locs, hlo⟩ : ∃ q : List Loc, q = [] := ⟨_, rfl⟩
  have hP : va_P G cl [(a0, .inr (9, [.ref a1, .ref a2, .ref a3, .int v_x_3, .int v_x_4, .ref a4, .ref a5, .ref a6, .ref a7])), (a2, .inr (2, [.ref a8, .ref a9, .int v_rd_2, .int v_rd_3, .int v_rd_4, .int v_rd_5, .int v_rd_6, .int v_rd_7])), (a8, .inr (5, [.ref a10, .int v_tp_1, .int v_tp_2, .int v_tp_3, .int v_tp_4, .long w_tp_5, .int v_tp_6])), (a10, .inl (cB, 1300, .inl g_tp_bytes))] H := by rw [hH]; exact hP
  have hS : va_S A s.heap H locs := by rw [hH, hlo]; exact hS
  rw [← hlo]
  rw [← hH]
  refine lv_aload_n hx hb dX9_feed_0 rfl (lv_at hl 0 rfl) ?_
  refine k_get hC hK hP iX9 0 1 wf_X9_19 rfl (by decide) rfl rfl dX9_feed_1 ?_
  refine k_getN hC hN hK hP iX2 1 0 wf_X9_65 rfl (by decide) rfl rfl dX9_feed_4 ?_
  refine lv_astore (lv' := [(6, .ref a8), (0, .ref a0), (1, .int b1), (2, .int b2), (3, .int b3), (4, .int b4), (5, .int b5)]) hx hb dX9_feed_7 hl (by decide) rfl (fun ls hl => ?_)
  refine lv_aload hx hb dX9_feed_9 (lv_at hl 0 rfl) ?_
  refine k_getN hC hN hK hP iX5 2 1 wf_X9_69 rfl (by decide) rfl rfl dX9_feed_11 ?_
  refine lv_bipush (v := 20) hx hb dX9_feed_14 (by decide) ?_
  refine lv_iadd hx hb dX9_feed_16 ?_
  refine t_i (fun q => q.toInt = v_tp_1.toInt + 20) (add_i (by show (-2147483648 : Int) ≤ v_tp_1.toInt + 20; omega) (by show v_tp_1.toInt + 20 ≤ (2147483647 : Int); omega)) (fun z1 tz1 => ?_)
  refine lv_sipush (v := 1300) hx hb dX9_feed_17 (by decide) ?_
  refine lv_icmp_le (tgt := 25) hx hb dX9_feed_20 (by decide) (fun c2 => ?_) (fun c2 => ?_)
  · have dc2 : z1.toInt ≤ 1300 := (fa_le _ _).mp c2
    refine lv_aload hx hb dX9_feed_25 (lv_at hl 0 rfl) ?_
    refine lv_iload_n hx hb dX9_feed_27 rfl (lv_at hl 2 rfl) ?_
    refine k_cv (wr := [(a0, .inr (9, [.ref a1, .ref a2, .ref a3, .int v_x_3, .int v_x_4, .ref a4, .ref a5, .ref a6, .ref a7])), (a2, .inr (2, [.ref a8, .ref a9, .int v_rd_2, .int v_rd_3, .int v_rd_4, .int v_rd_5, .int v_rd_6, .int v_rd_7]))]) (k_rV hC hN hZ hS hA hK hP hD (c14_X5_putFour l G cI cJ cB cZ a8 a10 b1 v_tp_1 v_tp_2 v_tp_3 v_tp_4 w_tp_5 v_tp_6 g_tp_bytes hv_4 hv_5 hv_6 hv_7 hT_g_tp_bytes) [2, 3] rfl (by decide +kernel) mi_X5_putFour in_X5_putFour se_X5_putFour wm_X9_74 5 2 rfl rfl rfl hl.1 rfl rfl (Nat.le_of_ble_eq_true rfl) ⟨(Nat.le_of_ble_eq_true rfl), (Nat.le_of_ble_eq_true rfl)⟩ dX9_feed_28 ⟨(Nat.le_of_ble_eq_true rfl), (Nat.le_of_ble_eq_true rfl)⟩) hP hD hS hA [2, 3] [0, 1] rfl rfl (by decide +kernel) (by decide +kernel) (fun u3 H locs hp hP hD hS => ?_)
    obtain ⟨h4, f5⟩ := u3
    obtain ⟨hp, hT_f5⟩ : (0 ≤ h4.toInt ∧ h4.toInt ≤ 1300) ∧ TA (-128) 127 f5 := hp
    have hP : va_P G cl [(a0, .inr (9, [.ref a1, .ref a2, .ref a3, .int v_x_3, .int v_x_4, .ref a4, .ref a5, .ref a6, .ref a7])), (a2, .inr (2, [.ref a8, .ref a9, .int v_rd_2, .int v_rd_3, .int v_rd_4, .int v_rd_5, .int v_rd_6, .int v_rd_7])), (a8, .inr (5, [.ref a10, .int h4, .int v_tp_2, .int v_tp_3, .int v_tp_4, .long w_tp_5, .int v_tp_6])), (a10, .inl (cB, 1300, .inl f5))] H := hP
    have hD : va_D A [(a0, .inr (9, [.ref a1, .ref a2, .ref a3, .int v_x_3, .int v_x_4, .ref a4, .ref a5, .ref a6, .ref a7])), (a2, .inr (2, [.ref a8, .ref a9, .int v_rd_2, .int v_rd_3, .int v_rd_4, .int v_rd_5, .int v_rd_6, .int v_rd_7])), (a8, .inr (5, [.ref a10, .int h4, .int v_tp_2, .int v_tp_3, .int v_tp_4, .long w_tp_5, .int v_tp_6])), (a10, .inl (cB, 1300, .inl f5))] := hD
    have hq3 := hp
    refine lv_aload hx hb dX9_feed_31 (lv_at hl 0 rfl) ?_
    refine lv_iload_n hx hb dX9_feed_33 rfl (lv_at hl 3 rfl) ?_
    refine k_cv (wr := [(a0, .inr (9, [.ref a1, .ref a2, .ref a3, .int v_x_3, .int v_x_4, .ref a4, .ref a5, .ref a6, .ref a7])), (a2, .inr (2, [.ref a8, .ref a9, .int v_rd_2, .int v_rd_3, .int v_rd_4, .int v_rd_5, .int v_rd_6, .int v_rd_7]))]) (k_rV hC hN hZ hS hA hK hP hD (c14_X5_putFour l G cI cJ cB cZ a8 a10 b2 h4 v_tp_2 v_tp_3 v_tp_4 w_tp_5 v_tp_6 f5 (by omega) (by omega) hv_6 hv_7 hT_f5) [2, 3] rfl (by decide +kernel) mi_X5_putFour in_X5_putFour se_X5_putFour wm_X9_74 5 2 rfl rfl rfl hl.1 rfl rfl (Nat.le_of_ble_eq_true rfl) ⟨(Nat.le_of_ble_eq_true rfl), (Nat.le_of_ble_eq_true rfl)⟩ dX9_feed_34 ⟨(Nat.le_of_ble_eq_true rfl), (Nat.le_of_ble_eq_true rfl)⟩) hP hD hS hA [2, 3] [0, 1] rfl rfl (by decide +kernel) (by decide +kernel) (fun u6 H locs hp hP hD hS => ?_)
    obtain ⟨h7, f8⟩ := u6
    obtain ⟨hp, hT_f8⟩ : (0 ≤ h7.toInt ∧ h7.toInt ≤ 1300) ∧ TA (-128) 127 f8 := hp
    have hP : va_P G cl [(a0, .inr (9, [.ref a1, .ref a2, .ref a3, .int v_x_3, .int v_x_4, .ref a4, .ref a5, .ref a6, .ref a7])), (a2, .inr (2, [.ref a8, .ref a9, .int v_rd_2, .int v_rd_3, .int v_rd_4, .int v_rd_5, .int v_rd_6, .int v_rd_7])), (a8, .inr (5, [.ref a10, .int h7, .int v_tp_2, .int v_tp_3, .int v_tp_4, .long w_tp_5, .int v_tp_6])), (a10, .inl (cB, 1300, .inl f8))] H := hP
    have hD : va_D A [(a0, .inr (9, [.ref a1, .ref a2, .ref a3, .int v_x_3, .int v_x_4, .ref a4, .ref a5, .ref a6, .ref a7])), (a2, .inr (2, [.ref a8, .ref a9, .int v_rd_2, .int v_rd_3, .int v_rd_4, .int v_rd_5, .int v_rd_6, .int v_rd_7])), (a8, .inr (5, [.ref a10, .int h7, .int v_tp_2, .int v_tp_3, .int v_tp_4, .long w_tp_5, .int v_tp_6])), (a10, .inl (cB, 1300, .inl f8))] := hD
    have hq6 := hp
    refine lv_aload hx hb dX9_feed_37 (lv_at hl 0 rfl) ?_
    refine lv_iload_n hx hb dX9_feed_39 rfl (lv_at hl 4 rfl) ?_
    refine k_cv (wr := [(a0, .inr (9, [.ref a1, .ref a2, .ref a3, .int v_x_3, .int v_x_4, .ref a4, .ref a5, .ref a6, .ref a7])), (a2, .inr (2, [.ref a8, .ref a9, .int v_rd_2, .int v_rd_3, .int v_rd_4, .int v_rd_5, .int v_rd_6, .int v_rd_7]))]) (k_rV hC hN hZ hS hA hK hP hD (c14_X5_putFour l G cI cJ cB cZ a8 a10 b3 h7 v_tp_2 v_tp_3 v_tp_4 w_tp_5 v_tp_6 f8 (by omega) (by omega) hv_6 hv_7 hT_f8) [2, 3] rfl (by decide +kernel) mi_X5_putFour in_X5_putFour se_X5_putFour wm_X9_74 5 2 rfl rfl rfl hl.1 rfl rfl (Nat.le_of_ble_eq_true rfl) ⟨(Nat.le_of_ble_eq_true rfl), (Nat.le_of_ble_eq_true rfl)⟩ dX9_feed_40 ⟨(Nat.le_of_ble_eq_true rfl), (Nat.le_of_ble_eq_true rfl)⟩) hP hD hS hA [2, 3] [0, 1] rfl rfl (by decide +kernel) (by decide +kernel) (fun u9 H locs hp hP hD hS => ?_)
    obtain ⟨h10, f11⟩ := u9
    obtain ⟨hp, hT_f11⟩ : (0 ≤ h10.toInt ∧ h10.toInt ≤ 1300) ∧ TA (-128) 127 f11 := hp
    have hP : va_P G cl [(a0, .inr (9, [.ref a1, .ref a2, .ref a3, .int v_x_3, .int v_x_4, .ref a4, .ref a5, .ref a6, .ref a7])), (a2, .inr (2, [.ref a8, .ref a9, .int v_rd_2, .int v_rd_3, .int v_rd_4, .int v_rd_5, .int v_rd_6, .int v_rd_7])), (a8, .inr (5, [.ref a10, .int h10, .int v_tp_2, .int v_tp_3, .int v_tp_4, .long w_tp_5, .int v_tp_6])), (a10, .inl (cB, 1300, .inl f11))] H := hP
    have hD : va_D A [(a0, .inr (9, [.ref a1, .ref a2, .ref a3, .int v_x_3, .int v_x_4, .ref a4, .ref a5, .ref a6, .ref a7])), (a2, .inr (2, [.ref a8, .ref a9, .int v_rd_2, .int v_rd_3, .int v_rd_4, .int v_rd_5, .int v_rd_6, .int v_rd_7])), (a8, .inr (5, [.ref a10, .int h10, .int v_tp_2, .int v_tp_3, .int v_tp_4, .long w_tp_5, .int v_tp_6])), (a10, .inl (cB, 1300, .inl f11))] := hD
    have hq9 := hp
    refine lv_aload hx hb dX9_feed_43 (lv_at hl 0 rfl) ?_
    refine lv_iload hx hb dX9_feed_45 (lv_at hl 5 rfl) ?_
    refine k_cv (wr := [(a0, .inr (9, [.ref a1, .ref a2, .ref a3, .int v_x_3, .int v_x_4, .ref a4, .ref a5, .ref a6, .ref a7])), (a2, .inr (2, [.ref a8, .ref a9, .int v_rd_2, .int v_rd_3, .int v_rd_4, .int v_rd_5, .int v_rd_6, .int v_rd_7]))]) (k_rV hC hN hZ hS hA hK hP hD (c14_X5_putFour l G cI cJ cB cZ a8 a10 b4 h10 v_tp_2 v_tp_3 v_tp_4 w_tp_5 v_tp_6 f11 (by omega) (by omega) hv_6 hv_7 hT_f11) [2, 3] rfl (by decide +kernel) mi_X5_putFour in_X5_putFour se_X5_putFour wm_X9_74 5 2 rfl rfl rfl hl.1 rfl rfl (Nat.le_of_ble_eq_true rfl) ⟨(Nat.le_of_ble_eq_true rfl), (Nat.le_of_ble_eq_true rfl)⟩ dX9_feed_47 ⟨(Nat.le_of_ble_eq_true rfl), (Nat.le_of_ble_eq_true rfl)⟩) hP hD hS hA [2, 3] [0, 1] rfl rfl (by decide +kernel) (by decide +kernel) (fun u12 H locs hp hP hD hS => ?_)
    obtain ⟨h13, f14⟩ := u12
    obtain ⟨hp, hT_f14⟩ : (0 ≤ h13.toInt ∧ h13.toInt ≤ 1300) ∧ TA (-128) 127 f14 := hp
    have hP : va_P G cl [(a0, .inr (9, [.ref a1, .ref a2, .ref a3, .int v_x_3, .int v_x_4, .ref a4, .ref a5, .ref a6, .ref a7])), (a2, .inr (2, [.ref a8, .ref a9, .int v_rd_2, .int v_rd_3, .int v_rd_4, .int v_rd_5, .int v_rd_6, .int v_rd_7])), (a8, .inr (5, [.ref a10, .int h13, .int v_tp_2, .int v_tp_3, .int v_tp_4, .long w_tp_5, .int v_tp_6])), (a10, .inl (cB, 1300, .inl f14))] H := hP
    have hD : va_D A [(a0, .inr (9, [.ref a1, .ref a2, .ref a3, .int v_x_3, .int v_x_4, .ref a4, .ref a5, .ref a6, .ref a7])), (a2, .inr (2, [.ref a8, .ref a9, .int v_rd_2, .int v_rd_3, .int v_rd_4, .int v_rd_5, .int v_rd_6, .int v_rd_7])), (a8, .inr (5, [.ref a10, .int h13, .int v_tp_2, .int v_tp_3, .int v_tp_4, .long w_tp_5, .int v_tp_6])), (a10, .inl (cB, 1300, .inl f14))] := hD
    have hq12 := hp
    refine lv_aload hx hb dX9_feed_50 (lv_at hl 0 rfl) ?_
    refine lv_iload hx hb dX9_feed_52 (lv_at hl 6 rfl) ?_
    refine k_cv (wr := [(a0, .inr (9, [.ref a1, .ref a2, .ref a3, .int v_x_3, .int v_x_4, .ref a4, .ref a5, .ref a6, .ref a7])), (a2, .inr (2, [.ref a8, .ref a9, .int v_rd_2, .int v_rd_3, .int v_rd_4, .int v_rd_5, .int v_rd_6, .int v_rd_7]))]) (k_rV hC hN hZ hS hA hK hP hD (c14_X5_putFour l G cI cJ cB cZ a8 a10 b5 h13 v_tp_2 v_tp_3 v_tp_4 w_tp_5 v_tp_6 f14 (by omega) (by omega) hv_6 hv_7 hT_f14) [2, 3] rfl (by decide +kernel) mi_X5_putFour in_X5_putFour se_X5_putFour wm_X9_74 5 2 rfl rfl rfl hl.1 rfl rfl (Nat.le_of_ble_eq_true rfl) ⟨(Nat.le_of_ble_eq_true rfl), (Nat.le_of_ble_eq_true rfl)⟩ dX9_feed_54 ⟨(Nat.le_of_ble_eq_true rfl), (Nat.le_of_ble_eq_true rfl)⟩) hP hD hS hA [2, 3] [0, 1] rfl rfl (by decide +kernel) (by decide +kernel) (fun u15 H locs hp hP hD hS => ?_)
    obtain ⟨h16, f17⟩ := u15
    obtain ⟨hp, hT_f17⟩ : (0 ≤ h16.toInt ∧ h16.toInt ≤ 1300) ∧ TA (-128) 127 f17 := hp
    have hP : va_P G cl [(a0, .inr (9, [.ref a1, .ref a2, .ref a3, .int v_x_3, .int v_x_4, .ref a4, .ref a5, .ref a6, .ref a7])), (a2, .inr (2, [.ref a8, .ref a9, .int v_rd_2, .int v_rd_3, .int v_rd_4, .int v_rd_5, .int v_rd_6, .int v_rd_7])), (a8, .inr (5, [.ref a10, .int h16, .int v_tp_2, .int v_tp_3, .int v_tp_4, .long w_tp_5, .int v_tp_6])), (a10, .inl (cB, 1300, .inl f17))] H := hP
    have hD : va_D A [(a0, .inr (9, [.ref a1, .ref a2, .ref a3, .int v_x_3, .int v_x_4, .ref a4, .ref a5, .ref a6, .ref a7])), (a2, .inr (2, [.ref a8, .ref a9, .int v_rd_2, .int v_rd_3, .int v_rd_4, .int v_rd_5, .int v_rd_6, .int v_rd_7])), (a8, .inr (5, [.ref a10, .int h16, .int v_tp_2, .int v_tp_3, .int v_tp_4, .long w_tp_5, .int v_tp_6])), (a10, .inl (cB, 1300, .inl f17))] := hD
    have hq15 := hp
    refine lv_aload hx hb dX9_feed_57 (lv_at hl 0 rfl) ?_
    refine k_getN hC hN hK hP iX5 2 1 wf_X9_69 rfl (by decide) rfl rfl dX9_feed_59 ?_
    rw [← hQm]
    exact k_iret hC hr hlk hK hP hD hS (h16, f17) [0, 1, 2, 3] rfl (by decide +kernel) ⟨(show (-1) ≤ h16.toInt ∧ h16.toInt ≤ 1300 ∧ 0 ≤ h16.toInt ∧ h16.toInt ≤ 1300 from by omega), hT_f17⟩ (Nat.le_of_ble_eq_true rfl) (Nat.le_of_ble_eq_true rfl) dX9_feed_62
  · have dc2 : 1300 < z1.toInt := fa_nle c2
    refine lv_iconst (v := (-1)) hx hb dX9_feed_23 (by decide) ?_
    have l_l18 : ((-1) : Int32).toInt = (-1) := rfl
    rw [← hQm]
    exact k_iret hC hr hlk hK hP hD hS (v_tp_1, g_tp_bytes) [0, 1, 2, 3] rfl (by decide +kernel) ⟨(show (-1) ≤ ((-1) : Int32).toInt ∧ ((-1) : Int32).toInt ≤ 1300 ∧ 0 ≤ v_tp_1.toInt ∧ v_tp_1.toInt ≤ 1300 from by omega), hT_g_tp_bytes⟩ (Nat.le_of_ble_eq_true rfl) (Nat.le_of_ble_eq_true rfl) dX9_feed_24
theorem dX9_end_0 : decode cX9_end 0 = .ok (.iload_n 1, 1) := by decide +kernel
theorem dX9_end_1 : decode cX9_end 1 = .ok (.ifCond .lt 17, 3) := by decide +kernel
theorem dX9_end_18 : decode cX9_end 18 = .ok (.iconst (-1), 1) := by decide +kernel
theorem dX9_end_19 : decode cX9_end 19 = .ok (.ireturn, 1) := by decide +kernel
theorem dX9_end_4 : decode cX9_end 4 = .ok (.iload_n 1, 1) := by decide +kernel
theorem dX9_end_5 : decode cX9_end 5 = .ok (.aload_n 0, 1) := by decide +kernel
theorem dX9_end_6 : decode cX9_end 6 = .ok (.getfield 19, 3) := by decide +kernel
theorem dX9_end_9 : decode cX9_end 9 = .ok (.getfield 65, 3) := by decide +kernel
theorem dX9_end_12 : decode cX9_end 12 = .ok (.getfield 69, 3) := by decide +kernel
theorem dX9_end_15 : decode cX9_end 15 = .ok (.if_icmp .le 5, 3) := by decide +kernel
theorem dX9_end_20 : decode cX9_end 20 = .ok (.aload_n 0, 1) := by decide +kernel
theorem dX9_end_21 : decode cX9_end 21 = .ok (.getfield 19, 3) := by decide +kernel
theorem dX9_end_24 : decode cX9_end 24 = .ok (.getfield 65, 3) := by decide +kernel
theorem dX9_end_27 : decode cX9_end 27 = .ok (.iload_n 1, 1) := by decide +kernel
theorem dX9_end_28 : decode cX9_end 28 = .ok (.putfield 69, 3) := by decide +kernel
theorem dX9_end_31 : decode cX9_end 31 = .ok (.iload_n 1, 1) := by decide +kernel
theorem dX9_end_32 : decode cX9_end 32 = .ok (.ireturn, 1) := by decide +kernel
set_option maxHeartbeats 4000000 in
set_option maxRecDepth 100000 in
theorem c115_X9_end (l : Launch) (G : va_G) (cI cJ cB cZ : ClassId) (a0 a1 a2 a3 a4 a5 a6 a7 a8 a9 a10 : Nat) (b1 : Int32) (v_x_3 : Int32) (v_x_4 : Int32) (v_rd_2 : Int32) (v_rd_3 : Int32) (v_rd_4 : Int32) (v_rd_5 : Int32) (v_rd_6 : Int32) (v_rd_7 : Int32) (v_tp_1 : Int32) (v_tp_2 : Int32) (v_tp_3 : Int32) (v_tp_4 : Int32) (w_tp_5 : Int64) (v_tp_6 : Int32) (hv_0 : 0 ≤ v_rd_3.toInt) (hv_1 : v_rd_3.toInt ≤ 1) (hv_2 : 0 ≤ v_rd_4.toInt) (hv_3 : v_rd_4.toInt ≤ 1) (hv_4 : 0 ≤ v_tp_1.toInt) (hv_5 : v_tp_1.toInt ≤ 1300) (hv_6 : 0 ≤ v_tp_2.toInt) (hv_7 : v_tp_2.toInt ≤ 1300) : Con l G (TY cI cJ cB cZ) yX9_end cX9_end 2 (some .int) ({ frames := 0, cells := 0, slots := 0, locals := 0 } : Room) [.ref a0, .int b1] [(a0, .inr (9, [.ref a1, .ref a2, .ref a3, .int v_x_3, .int v_x_4, .ref a4, .ref a5, .ref a6, .ref a7])), (a2, .inr (2, [.ref a8, .ref a9, .int v_rd_2, .int v_rd_3, .int v_rd_4, .int v_rd_5, .int v_rd_6, .int v_rd_7])), (a8, .inr (5, [.ref a10, .int v_tp_1, .int v_tp_2, .int v_tp_3, .int v_tp_4, .long w_tp_5, .int v_tp_6]))] (QI G (TY cI cJ cB cZ) (fun (r : Int32) (u : Int32) => ((-1) ≤ r.toInt ∧ r.toInt ≤ 1300 ∧ 0 ≤ u.toInt ∧ u.toInt ≤ 1300)) (fun u : Int32 => [(a0, .inr (9, [.ref a1, .ref a2, .ref a3, .int v_x_3, .int v_x_4, .ref a4, .ref a5, .ref a6, .ref a7])), (a2, .inr (2, [.ref a8, .ref a9, .int v_rd_2, .int v_rd_3, .int v_rd_4, .int v_rd_5, .int v_rd_6, .int v_rd_7])), (a8, .inr (5, [.ref a10, .int u, .int v_tp_2, .int v_tp_3, .int v_tp_4, .long w_tp_5, .int v_tp_6]))])) := by
  refine k_met (by decide) (Nat.le_of_ble_eq_true rfl) ?_
  intro p e s m below meth c A ls hC hr hlk hnm hN hZ hK hA hP hD hS hl
  have hl : lv_has ls 2 [(0, .ref a0), (1, .int b1)] := hl
  generalize hQm : MQ below _ _ s _ _ A = Qm
  generalize (List.toArray _ : Array Value) = args at hC hQm ⊢
  obtain ⟨hx, hb, hml, hown, hts⟩ := id hC
  obtain ⟨H, hH⟩ : ∃ q, q = s.heap := ⟨_, rfl⟩
  obtain ⟨locs, hlo⟩ : ∃ q : List Loc, q = [] := ⟨_, rfl⟩
  have hP : va_P G cl [(a0, .inr (9, [.ref a1, .ref a2, .ref a3, .int v_x_3, .int v_x_4, .ref a4, .ref a5, .ref a6, .ref a7])), (a2, .inr (2, [.ref a8, .ref a9, .int v_rd_2, .int v_rd_3, .int v_rd_4, .int v_rd_5, .int v_rd_6, .int v_rd_7])), (a8, .inr (5, [.ref a10, .int v_tp_1, .int v_tp_2, .int v_tp_3, .int v_tp_4, .long w_tp_5, .int v_tp_6]))] H := by rw [hH]; exact hP
  have hS : va_S A s.heap H locs := by rw [hH, hlo]; exact hS
  rw [← hlo]
  rw [← hH]
  refine lv_iload_n hx hb dX9_end_0 rfl (lv_at hl 1 rfl) ?_
  refine lv_if_lt (tgt := 18) hx hb dX9_end_1 (by decide) (fun c1 => ?_) (fun c1 => ?_)
  · have dc1 : b1.toInt < 0 := (fa_lt _ _).mp c1; have lbc1_0 := i_lo b1; have ubc1_0 := i_hi b1
    refine lv_iconst (v := (-1)) hx hb dX9_end_18 (by decide) ?_
    have l_l2 : ((-1) : Int32).toInt = (-1) := rfl
    rw [← hQm]
    exact k_iret hC hr hlk hK hP hD hS v_tp_1 [0, 1, 2] rfl (by decide +kernel) (show (-1) ≤ ((-1) : Int32).toInt ∧ ((-1) : Int32).toInt ≤ 1300 ∧ 0 ≤ v_tp_1.toInt ∧ v_tp_1.toInt ≤ 1300 from by omega) (Nat.le_of_ble_eq_true rfl) (Nat.le_of_ble_eq_true rfl) dX9_end_19
  · have dc1 : 0 ≤ b1.toInt := fa_nlt c1; have lbc1_0 := i_lo b1; have ubc1_0 := i_hi b1
    refine lv_iload_n hx hb dX9_end_4 rfl (lv_at hl 1 rfl) ?_
    refine lv_aload_n hx hb dX9_end_5 rfl (lv_at hl 0 rfl) ?_
    refine k_get hC hK hP iX9 0 1 wf_X9_19 rfl (by decide) rfl rfl dX9_end_6 ?_
    refine k_getN hC hN hK hP iX2 1 0 wf_X9_65 rfl (by decide) rfl rfl dX9_end_9 ?_
    refine k_getN hC hN hK hP iX5 2 1 wf_X9_69 rfl (by decide) rfl rfl dX9_end_12 ?_
    refine lv_icmp_le (tgt := 20) hx hb dX9_end_15 (by decide) (fun c3 => ?_) (fun c3 => ?_)
    · have dc3 : b1.toInt ≤ v_tp_1.toInt := (fa_le _ _).mp c3; have ubc3_0 := i_hi b1
      refine lv_aload_n hx hb dX9_end_20 rfl (lv_at hl 0 rfl) ?_
      refine k_get hC hK hP iX9 0 1 wf_X9_19 rfl (by decide) rfl rfl dX9_end_21 ?_
      refine k_getN hC hN hK hP iX2 1 0 wf_X9_65 rfl (by decide) rfl rfl dX9_end_24 ?_
      refine lv_iload_n hx hb dX9_end_27 rfl (lv_at hl 1 rfl) ?_
      refine k_putN hC hN hK hP hD hS iX5 tyX5_ok nmX5 2 1 wf_X9_69 rfl (by decide) rfl rfl rfl rfl (Nat.le_of_ble_eq_true rfl) dX9_end_28 (fun H locs hP hD hS => ?_)
      have hP : va_P G cl [(a0, .inr (9, [.ref a1, .ref a2, .ref a3, .int v_x_3, .int v_x_4, .ref a4, .ref a5, .ref a6, .ref a7])), (a2, .inr (2, [.ref a8, .ref a9, .int v_rd_2, .int v_rd_3, .int v_rd_4, .int v_rd_5, .int v_rd_6, .int v_rd_7])), (a8, .inr (5, [.ref a10, .int b1, .int v_tp_2, .int v_tp_3, .int v_tp_4, .long w_tp_5, .int v_tp_6]))] H := hP
      have hD : va_D A [(a0, .inr (9, [.ref a1, .ref a2, .ref a3, .int v_x_3, .int v_x_4, .ref a4, .ref a5, .ref a6, .ref a7])), (a2, .inr (2, [.ref a8, .ref a9, .int v_rd_2, .int v_rd_3, .int v_rd_4, .int v_rd_5, .int v_rd_6, .int v_rd_7])), (a8, .inr (5, [.ref a10, .int b1, .int v_tp_2, .int v_tp_3, .int v_tp_4, .long w_tp_5, .int v_tp_6]))] := hD
      refine lv_iload_n hx hb dX9_end_31 rfl (lv_at hl 1 rfl) ?_
      rw [← hQm]
      exact k_iret hC hr hlk hK hP hD hS b1 [0, 1, 2] rfl (by decide +kernel) (show (-1) ≤ b1.toInt ∧ b1.toInt ≤ 1300 ∧ 0 ≤ b1.toInt ∧ b1.toInt ≤ 1300 from by omega) (Nat.le_of_ble_eq_true rfl) (Nat.le_of_ble_eq_true rfl) dX9_end_32
    · have dc3 : v_tp_1.toInt < b1.toInt := fa_nle c3; have ubc3_0 := i_hi b1
      refine lv_iconst (v := (-1)) hx hb dX9_end_18 (by decide) ?_
      have l_l4 : ((-1) : Int32).toInt = (-1) := rfl
      rw [← hQm]
      exact k_iret hC hr hlk hK hP hD hS v_tp_1 [0, 1, 2] rfl (by decide +kernel) (show (-1) ≤ ((-1) : Int32).toInt ∧ ((-1) : Int32).toInt ≤ 1300 ∧ 0 ≤ v_tp_1.toInt ∧ v_tp_1.toInt ≤ 1300 from by omega) (Nat.le_of_ble_eq_true rfl) (Nat.le_of_ble_eq_true rfl) dX9_end_19
theorem dX9_fault_0 : decode cX9_fault 0 = .ok (.iload_n 1, 1) := by decide +kernel
theorem dX9_fault_1 : decode cX9_fault 1 = .ok (.ifCond .ne 11, 3) := by decide +kernel
theorem dX9_fault_12 : decode cX9_fault 12 = .ok (.iload_n 1, 1) := by decide +kernel
theorem dX9_fault_13 : decode cX9_fault 13 = .ok (.iconst 1, 1) := by decide +kernel
theorem dX9_fault_14 : decode cX9_fault 14 = .ok (.if_icmp .ne 13, 3) := by decide +kernel
theorem dX9_fault_27 : decode cX9_fault 27 = .ok (.iconst (-1), 1) := by decide +kernel
theorem dX9_fault_28 : decode cX9_fault 28 = .ok (.ireturn, 1) := by decide +kernel
theorem dX9_fault_17 : decode cX9_fault 17 = .ok (.aload_n 0, 1) := by decide +kernel
theorem dX9_fault_18 : decode cX9_fault 18 = .ok (.getfield 19, 3) := by decide +kernel
theorem dX9_fault_21 : decode cX9_fault 21 = .ok (.getfield 96, 3) := by decide +kernel
set_option maxRecDepth 100000 in
theorem wf_X9_96 : Cond.fieldLinkNest RX9 96 "StoneTrust$Reader" "faultPlace" "I" "StoneTrust" ∈ nests := nm_ (List.mem_of_getElem? (i := 349) (by decide +kernel)) rfl
theorem dX9_fault_24 : decode cX9_fault 24 = .ok (.goto 4, 3) := by decide +kernel
theorem dX9_fault_4 : decode cX9_fault 4 = .ok (.aload_n 0, 1) := by decide +kernel
theorem dX9_fault_5 : decode cX9_fault 5 = .ok (.getfield 19, 3) := by decide +kernel
theorem dX9_fault_8 : decode cX9_fault 8 = .ok (.getfield 93, 3) := by decide +kernel
set_option maxRecDepth 100000 in
theorem wf_X9_93 : Cond.fieldLinkNest RX9 93 "StoneTrust$Reader" "fault" "I" "StoneTrust" ∈ nests := nm_ (List.mem_of_getElem? (i := 347) (by decide +kernel)) rfl
theorem dX9_fault_11 : decode cX9_fault 11 = .ok (.ireturn, 1) := by decide +kernel
set_option maxHeartbeats 4000000 in
set_option maxRecDepth 100000 in
theorem c116_X9_fault (l : Launch) (G : va_G) (cI cJ cB cZ : ClassId) (a0 a1 a2 a3 a4 a5 a6 a7 a8 a9 : Nat) (b1 : Int32) (v_x_3 : Int32) (v_x_4 : Int32) (v_rd_2 : Int32) (v_rd_3 : Int32) (v_rd_4 : Int32) (v_rd_5 : Int32) (v_rd_6 : Int32) (v_rd_7 : Int32) (hv_0 : 0 ≤ v_rd_3.toInt) (hv_1 : v_rd_3.toInt ≤ 1) (hv_2 : 0 ≤ v_rd_4.toInt) (hv_3 : v_rd_4.toInt ≤ 1) : Con l G (TY cI cJ cB cZ) yX9_fault cX9_fault 2 (some .int) ({ frames := 0, cells := 0, slots := 0, locals := 0 } : Room) [.ref a0, .int b1] [(a0, .inr (9, [.ref a1, .ref a2, .ref a3, .int v_x_3, .int v_x_4, .ref a4, .ref a5, .ref a6, .ref a7])), (a2, .inr (2, [.ref a8, .ref a9, .int v_rd_2, .int v_rd_3, .int v_rd_4, .int v_rd_5, .int v_rd_6, .int v_rd_7]))] (QI G (TY cI cJ cB cZ) (fun (r : Int32) (u : Unit) => (True)) (fun u : Unit => [(a0, .inr (9, [.ref a1, .ref a2, .ref a3, .int v_x_3, .int v_x_4, .ref a4, .ref a5, .ref a6, .ref a7])), (a2, .inr (2, [.ref a8, .ref a9, .int v_rd_2, .int v_rd_3, .int v_rd_4, .int v_rd_5, .int v_rd_6, .int v_rd_7]))])) := by
  refine k_met (by decide) (Nat.le_of_ble_eq_true rfl) ?_
  intro p e s m below meth c A ls hC hr hlk hnm hN hZ hK hA hP hD hS hl
  have hl : lv_has ls 2 [(0, .ref a0), (1, .int b1)] := hl
  generalize hQm : MQ below _ _ s _ _ A = Qm
  generalize (List.toArray _ : Array Value) = args at hC hQm ⊢
  obtain ⟨hx, hb, hml, hown, hts⟩ := id hC
  obtain ⟨H, hH⟩ : ∃ q, q = s.heap := ⟨_, rfl⟩
  obtain ⟨locs, hlo⟩ : ∃ q : List Loc, q = [] := ⟨_, rfl⟩
  have hP : va_P G cl [(a0, .inr (9, [.ref a1, .ref a2, .ref a3, .int v_x_3, .int v_x_4, .ref a4, .ref a5, .ref a6, .ref a7])), (a2, .inr (2, [.ref a8, .ref a9, .int v_rd_2, .int v_rd_3, .int v_rd_4, .int v_rd_5, .int v_rd_6, .int v_rd_7]))] H := by rw [hH]; exact hP
  have hS : va_S A s.heap H locs := by rw [hH, hlo]; exact hS
  rw [← hlo]
  rw [← hH]
  refine lv_iload_n hx hb dX9_fault_0 rfl (lv_at hl 1 rfl) ?_
  refine lv_if_ne (tgt := 12) hx hb dX9_fault_1 (by decide) (fun c1 => ?_) (fun c1 => ?_)
  · have dc1 : b1.toInt ≠ 0 := fa_ne c1; have lbc1_0 := i_lo b1; have ubc1_0 := i_hi b1
    refine lv_iload_n hx hb dX9_fault_12 rfl (lv_at hl 1 rfl) ?_
    refine lv_iconst (v := 1) hx hb dX9_fault_13 (by decide) ?_
    refine lv_icmp_ne (tgt := 27) hx hb dX9_fault_14 (by decide) (fun c2 => ?_) (fun c2 => ?_)
    · have dc2 : b1.toInt ≠ 1 := fa_ne c2; have lbc2_0 := i_lo b1; have ubc2_0 := i_hi b1
      refine lv_iconst (v := (-1)) hx hb dX9_fault_27 (by decide) ?_
      have l_l3 : ((-1) : Int32).toInt = (-1) := rfl
      rw [← hQm]
      exact k_iret hC hr hlk hK hP hD hS () [0, 1] rfl (by decide +kernel) trivial (Nat.le_of_ble_eq_true rfl) (Nat.le_of_ble_eq_true rfl) dX9_fault_28
    · have dc2 : b1.toInt = 1 := (fa_eq _ _).mp c2; have lbc2_0 := i_lo b1; have ubc2_0 := i_hi b1
      refine lv_aload_n hx hb dX9_fault_17 rfl (lv_at hl 0 rfl) ?_
      refine k_get hC hK hP iX9 0 1 wf_X9_19 rfl (by decide) rfl rfl dX9_fault_18 ?_
      refine k_getN hC hN hK hP iX2 1 7 wf_X9_96 rfl (by decide) rfl rfl dX9_fault_21 ?_
      refine lv_goto (tgt := 28) hx hb dX9_fault_24 (by decide) ?_
      rw [← hQm]
      exact k_iret hC hr hlk hK hP hD hS () [0, 1] rfl (by decide +kernel) trivial (Nat.le_of_ble_eq_true rfl) (Nat.le_of_ble_eq_true rfl) dX9_fault_28
  · have dc1 : b1.toInt = 0 := (fa_eq _ _).mp c1; have lbc1_0 := i_lo b1; have ubc1_0 := i_hi b1
    refine lv_aload_n hx hb dX9_fault_4 rfl (lv_at hl 0 rfl) ?_
    refine k_get hC hK hP iX9 0 1 wf_X9_19 rfl (by decide) rfl rfl dX9_fault_5 ?_
    refine k_getN hC hN hK hP iX2 1 6 wf_X9_93 rfl (by decide) rfl rfl dX9_fault_8 ?_
    rw [← hQm]
    exact k_iret hC hr hlk hK hP hD hS () [0, 1] rfl (by decide +kernel) trivial (Nat.le_of_ble_eq_true rfl) (Nat.le_of_ble_eq_true rfl) dX9_fault_11

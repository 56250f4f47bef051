theorem dX9_isPile_0 : decode cX9_isPile 0 = .ok (.iload_n 1, 1) := by decide +kernel
theorem dX9_isPile_1 : decode cX9_isPile 1 = .ok (.ifCond .le 20, 3) := by decide +kernel
theorem dX9_isPile_21 : decode cX9_isPile 21 = .ok (.iconst 0, 1) := by decide +kernel
theorem dX9_isPile_22 : decode cX9_isPile 22 = .ok (.ireturn, 1) := by decide +kernel
theorem dX9_isPile_4 : decode cX9_isPile 4 = .ok (.iload_n 1, 1) := by decide +kernel
theorem dX9_isPile_5 : decode cX9_isPile 5 = .ok (.iconst 1, 1) := by decide +kernel
theorem dX9_isPile_6 : decode cX9_isPile 6 = .ok (.aload_n 0, 1) := by decide +kernel
theorem dX9_isPile_7 : decode cX9_isPile 7 = .ok (.getfield 10, 3) := by decide +kernel
set_option maxRecDepth 100000 in
theorem wf_X9_10 : Cond.fieldLink RX9 10 "StoneTrust" "village" "LStoneTrust$Village;" ∈ gw := gm (List.mem_of_getElem? (i := 539) (by decide +kernel)) rfl
theorem dX9_isPile_10 : decode cX9_isPile 10 = .ok (.getfield 171, 3) := by decide +kernel
set_option maxRecDepth 100000 in
theorem wf_X9_171 : Cond.fieldLinkNest RX9 171 "StoneTrust$Village" "stones" "I" "StoneTrust" ∈ nests := nm_ (List.mem_of_getElem? (i := 242) (by decide +kernel)) rfl
theorem dX9_isPile_13 : decode cX9_isPile 13 = .ok (.ishl, 1) := by decide +kernel
theorem dX9_isPile_14 : decode cX9_isPile 14 = .ok (.if_icmp .ge 7, 3) := by decide +kernel
theorem dX9_isPile_17 : decode cX9_isPile 17 = .ok (.iconst 1, 1) := by decide +kernel
theorem dX9_isPile_18 : decode cX9_isPile 18 = .ok (.goto 4, 3) := by decide +kernel
set_option maxHeartbeats 4000000 in
set_option maxRecDepth 100000 in
theorem c117_X9_isPile (l : Launch) (G : va_G) (cI cJ cB cZ : ClassId) (a0 a1 a2 a3 a4 a5 a6 a7 a8 a9 a10 a11 a12 a13 a14 a15 a16 a17 a18 : Nat) (b1 : Int32) (v_x_3 : Int32) (v_x_4 : Int32) (v_V_0 : Int32) (v_V_1 : Int32) (v_V_2 : Int32) (v_V_5 : Int32) (hv_0 : 0 ≤ v_V_0.toInt) (hv_1 : v_V_0.toInt ≤ 110) (hv_2 : 0 ≤ v_V_1.toInt) (hv_3 : v_V_1.toInt ≤ 110) (hv_4 : 0 ≤ v_V_5.toInt) (hv_5 : v_V_5.toInt ≤ 6) : Con l G (TY cI cJ cB cZ) yX9_isPile cX9_isPile 2 (some .boolean) ({ frames := 0, cells := 0, slots := 0, locals := 0 } : Room) [.ref a0, .int b1] [(a0, .inr (9, [.ref a1, .ref a2, .ref a3, .int v_x_3, .int v_x_4, .ref a4, .ref a5, .ref a6, .ref a7])), (a1, .inr (7, [.int v_V_0, .int v_V_1, .int v_V_2, .ref a8, .ref a9, .int v_V_5, .ref a10, .ref a11, .ref a12, .ref a13, .ref a14, .ref a15, .ref a16, .ref a17, .ref a18]))] (QI G (TY cI cJ cB cZ) (fun (r : Int32) (u : Unit) => (0 ≤ r.toInt ∧ r.toInt ≤ 1)) (fun u : Unit => [(a0, .inr (9, [.ref a1, .ref a2, .ref a3, .int v_x_3, .int v_x_4, .ref a4, .ref a5, .ref a6, .ref a7])), (a1, .inr (7, [.int v_V_0, .int v_V_1, .int v_V_2, .ref a8, .ref a9, .int v_V_5, .ref a10, .ref a11, .ref a12, .ref a13, .ref a14, .ref a15, .ref a16, .ref a17, .ref a18]))])) := by
  refine k_met (by decide) (Nat.le_of_ble_eq_true rfl) ?_
  intro p e s m below meth c A ls hC hr hlk hnm hN hZ hK hA hP hD hS hl
  have hl : lv_has ls 2 [(0, .ref a0), (1, .int b1)] := hl
  generalize hQm : MQ below _ _ s _ _ A = Qm
  generalize (List.toArray _ : Array Value) = args at hC hQm ⊢
  obtain ⟨hx, hb, hml, hown, hts⟩ := id hC
  obtain ⟨H, hH⟩ : ∃ q, q = s.heap := ⟨_, rfl⟩
  obtain ⟨locs, hlo⟩ : ∃ q : List Loc, q = [] := ⟨_, rfl⟩
  have hP : va_P G cl [(a0, .inr (9, [.ref a1, .ref a2, .ref a3, .int v_x_3, .int v_x_4, .ref a4, .ref a5, .ref a6, .ref a7])), (a1, .inr (7, [.int v_V_0, .int v_V_1, .int v_V_2, .ref a8, .ref a9, .int v_V_5, .ref a10, .ref a11, .ref a12, .ref a13, .ref a14, .ref a15, .ref a16, .ref a17, .ref a18]))] H := by rw [hH]; exact hP
  have hS : va_S A s.heap H locs := by rw [hH, hlo]; exact hS
  rw [← hlo]
  rw [← hH]
  refine lv_iload_n hx hb dX9_isPile_0 rfl (lv_at hl 1 rfl) ?_
  refine lv_if_le (tgt := 21) hx hb dX9_isPile_1 (by decide) (fun c1 => ?_) (fun c1 => ?_)
  · have dc1 : b1.toInt ≤ 0 := (fa_le _ _).mp c1; have lbc1_0 := i_lo b1; have ubc1_0 := i_hi b1
    refine lv_iconst (v := 0) hx hb dX9_isPile_21 (by decide) ?_
    have l_l2 : (0 : Int32).toInt = 0 := rfl
    rw [← hQm]
    exact k_zret hC hr hlk hK hP hD hS () [0, 1] rfl (by decide +kernel) rfl (show 0 ≤ (0 : Int32).toInt ∧ (0 : Int32).toInt ≤ 1 from by omega) (Nat.le_of_ble_eq_true rfl) (Nat.le_of_ble_eq_true rfl) dX9_isPile_22
  · have dc1 : 0 < b1.toInt := fa_nle c1; have lbc1_0 := i_lo b1; have ubc1_0 := i_hi b1
    refine lv_iload_n hx hb dX9_isPile_4 rfl (lv_at hl 1 rfl) ?_
    refine lv_iconst (v := 1) hx hb dX9_isPile_5 (by decide) ?_
    refine lv_aload_n hx hb dX9_isPile_6 rfl (lv_at hl 0 rfl) ?_
    refine k_get hC hK hP iX9 0 0 wf_X9_10 rfl (by decide) rfl rfl dX9_isPile_7 ?_
    refine k_getN hC hN hK hP iX7 1 5 wf_X9_171 rfl (by decide) rfl rfl dX9_isPile_10 ?_
    refine lv_ishl hx hb dX9_isPile_13 ?_
    refine t_i (fun q => 1 ≤ q.toInt ∧ q.toInt ≤ 64) (shl1_b (k := 6) (by decide) (by omega) (by omega)) (fun z3 tz3 => ?_)
    refine lv_icmp_ge (tgt := 21) hx hb dX9_isPile_14 (by decide) (fun c4 => ?_) (fun c4 => ?_)
    · have dc4 : z3.toInt ≤ b1.toInt := (fa_le _ _).mp c4; have ubc4_1 := i_hi b1
      refine lv_iconst (v := 0) hx hb dX9_isPile_21 (by decide) ?_
      have l_l5 : (0 : Int32).toInt = 0 := rfl
      rw [← hQm]
      exact k_zret hC hr hlk hK hP hD hS () [0, 1] rfl (by decide +kernel) rfl (show 0 ≤ (0 : Int32).toInt ∧ (0 : Int32).toInt ≤ 1 from by omega) (Nat.le_of_ble_eq_true rfl) (Nat.le_of_ble_eq_true rfl) dX9_isPile_22
    · have dc4 : b1.toInt < z3.toInt := fa_nle c4; have ubc4_1 := i_hi b1
      refine lv_iconst (v := 1) hx hb dX9_isPile_17 (by decide) ?_
      refine lv_goto (tgt := 22) hx hb dX9_isPile_18 (by decide) ?_
      have l_l6 : (1 : Int32).toInt = 1 := rfl
      rw [← hQm]
      exact k_zret hC hr hlk hK hP hD hS () [0, 1] rfl (by decide +kernel) rfl (show 0 ≤ (1 : Int32).toInt ∧ (1 : Int32).toInt ≤ 1 from by omega) (Nat.le_of_ble_eq_true rfl) (Nat.le_of_ble_eq_true rfl) dX9_isPile_22
theorem dX9_canWeigh_0 : decode cX9_canWeigh 0 = .ok (.aload_n 0, 1) := by decide +kernel
theorem dX9_canWeigh_1 : decode cX9_canWeigh 1 = .ok (.iload_n 1, 1) := by decide +kernel
theorem dX9_canWeigh_2 : decode cX9_canWeigh 2 = .ok (.invokevirtual 245, 3) := by decide +kernel
set_option maxRecDepth 100000 in
theorem wm_X9_245 : Cond.methodLink RX9 245 yX9_isPile ∈ gw := gm (List.mem_of_getElem? (i := 746) (by decide +kernel)) rfl
set_option maxRecDepth 100000 in
theorem mi_X9_isPile : MI yX9_isPile cX9_isPile 2 (some .boolean) 1 := ⟨gm (List.mem_of_getElem? (i := 749) rfl) rfl, gm (List.mem_of_getElem? (i := 112) (by decide +kernel)) rfl, by decide, by decide, by decide +kernel⟩
set_option maxRecDepth 100000 in
theorem in_X9_isPile : Cond.instanceMethod yX9_isPile ∈ gw := gm (List.mem_of_getElem? (i := 748) (by decide +kernel)) rfl
set_option maxRecDepth 100000 in
theorem se_X9_isPile : Cond.selects yX9_isPile.cls yX9_isPile yX9_isPile ∈ gw := gm (List.mem_of_getElem? (i := 20) (by decide +kernel)) rfl
theorem dX9_canWeigh_5 : decode cX9_canWeigh 5 = .ok (.ifCond .eq 21, 3) := by decide +kernel
theorem dX9_canWeigh_26 : decode cX9_canWeigh 26 = .ok (.iconst 0, 1) := by decide +kernel
theorem dX9_canWeigh_27 : decode cX9_canWeigh 27 = .ok (.ireturn, 1) := by decide +kernel
theorem dX9_canWeigh_8 : decode cX9_canWeigh 8 = .ok (.aload_n 0, 1) := by decide +kernel
theorem dX9_canWeigh_9 : decode cX9_canWeigh 9 = .ok (.iload_n 2, 1) := by decide +kernel
theorem dX9_canWeigh_10 : decode cX9_canWeigh 10 = .ok (.invokevirtual 245, 3) := by decide +kernel
theorem dX9_canWeigh_13 : decode cX9_canWeigh 13 = .ok (.ifCond .eq 13, 3) := by decide +kernel
theorem dX9_canWeigh_16 : decode cX9_canWeigh 16 = .ok (.iload_n 1, 1) := by decide +kernel
theorem dX9_canWeigh_17 : decode cX9_canWeigh 17 = .ok (.iload_n 2, 1) := by decide +kernel
theorem dX9_canWeigh_18 : decode cX9_canWeigh 18 = .ok (.iand, 1) := by decide +kernel
theorem dX9_canWeigh_19 : decode cX9_canWeigh 19 = .ok (.ifCond .ne 7, 3) := by decide +kernel
theorem dX9_canWeigh_22 : decode cX9_canWeigh 22 = .ok (.iconst 1, 1) := by decide +kernel
theorem dX9_canWeigh_23 : decode cX9_canWeigh 23 = .ok (.goto 4, 3) := by decide +kernel
set_option maxHeartbeats 4000000 in
set_option maxRecDepth 100000 in
theorem c118_X9_canWeigh (l : Launch) (G : va_G) (cI cJ cB cZ : ClassId) (a0 a1 a2 a3 a4 a5 a6 a7 a8 a9 a10 a11 a12 a13 a14 a15 a16 a17 a18 : Nat) (b1 : Int32) (b2 : Int32) (v_x_3 : Int32) (v_x_4 : Int32) (v_V_0 : Int32) (v_V_1 : Int32) (v_V_2 : Int32) (v_V_5 : Int32) (hv_0 : 0 ≤ v_V_0.toInt) (hv_1 : v_V_0.toInt ≤ 110) (hv_2 : 0 ≤ v_V_1.toInt) (hv_3 : v_V_1.toInt ≤ 110) (hv_4 : 0 ≤ v_V_5.toInt) (hv_5 : v_V_5.toInt ≤ 6) : Con l G (TY cI cJ cB cZ) yX9_canWeigh cX9_canWeigh 3 (some .boolean) ({ frames := 1, cells := 0, slots := 0, locals := 21 } : Room) [.ref a0, .int b1, .int b2] [(a0, .inr (9, [.ref a1, .ref a2, .ref a3, .int v_x_3, .int v_x_4, .ref a4, .ref a5, .ref a6, .ref a7])), (a1, .inr (7, [.int v_V_0, .int v_V_1, .int v_V_2, .ref a8, .ref a9, .int v_V_5, .ref a10, .ref a11, .ref a12, .ref a13, .ref a14, .ref a15, .ref a16, .ref a17, .ref a18]))] (QI G (TY cI cJ cB cZ) (fun (r : Int32) (u : Unit) => (0 ≤ r.toInt ∧ r.toInt ≤ 1)) (fun u : Unit => [(a0, .inr (9, [.ref a1, .ref a2, .ref a3, .int v_x_3, .int v_x_4, .ref a4, .ref a5, .ref a6, .ref a7])), (a1, .inr (7, [.int v_V_0, .int v_V_1, .int v_V_2, .ref a8, .ref a9, .int v_V_5, .ref a10, .ref a11, .ref a12, .ref a13, .ref a14, .ref a15, .ref a16, .ref a17, .ref a18]))])) := by
  refine k_met (by decide) (Nat.le_of_ble_eq_true rfl) ?_
  intro p e s m below meth c A ls hC hr hlk hnm hN hZ hK hA hP hD hS hl
  have hl : lv_has ls 3 [(0, .ref a0), (1, .int b1), (2, .int b2)] := hl
  generalize hQm : MQ below _ _ s _ _ A = Qm
  generalize (List.toArray _ : Array Value) = args at hC hQm ⊢
  obtain ⟨hx, hb, hml, hown, hts⟩ := id hC
  obtain ⟨H, hH⟩ : ∃ q, q = s.heap := ⟨_, rfl⟩
  obtain ⟨locs, hlo⟩ : ∃ q : List Loc, q = [] := ⟨_, rfl⟩
  have hP : va_P G cl [(a0, .inr (9, [.ref a1, .ref a2, .ref a3, .int v_x_3, .int v_x_4, .ref a4, .ref a5, .ref a6, .ref a7])), (a1, .inr (7, [.int v_V_0, .int v_V_1, .int v_V_2, .ref a8, .ref a9, .int v_V_5, .ref a10, .ref a11, .ref a12, .ref a13, .ref a14, .ref a15, .ref a16, .ref a17, .ref a18]))] H := by rw [hH]; exact hP
  have hS : va_S A s.heap H locs := by rw [hH, hlo]; exact hS
  rw [← hlo]
  rw [← hH]
  refine lv_aload_n hx hb dX9_canWeigh_0 rfl (lv_at hl 0 rfl) ?_
  refine lv_iload_n hx hb dX9_canWeigh_1 rfl (lv_at hl 1 rfl) ?_
  refine k_ci (wr := []) (k_rV hC hN hZ hS hA hK hP hD (c117_X9_isPile l G cI cJ cB cZ a0 a1 a2 a3 a4 a5 a6 a7 a8 a9 a10 a11 a12 a13 a14 a15 a16 a17 a18 b1 v_x_3 v_x_4 v_V_0 v_V_1 v_V_2 v_V_5 hv_0 hv_1 hv_2 hv_3 hv_4 hv_5) [0, 1] rfl (by decide +kernel) mi_X9_isPile in_X9_isPile se_X9_isPile wm_X9_245 9 0 rfl rfl rfl hl.1 rfl rfl (Nat.le_of_ble_eq_true rfl) ⟨(Nat.le_of_ble_eq_true rfl), (Nat.le_of_ble_eq_true rfl)⟩ dX9_canWeigh_2 ⟨(Nat.le_of_ble_eq_true rfl), (Nat.le_of_ble_eq_true rfl)⟩) hP hD hS hA [0, 1] [] rfl rfl (by decide +kernel) (by decide +kernel) (fun r1 u1 H locs hp hP hD hS => ?_)
  have hp : (0 ≤ r1.toInt ∧ r1.toInt ≤ 1) := hp
  have hP : va_P G cl [(a0, .inr (9, [.ref a1, .ref a2, .ref a3, .int v_x_3, .int v_x_4, .ref a4, .ref a5, .ref a6, .ref a7])), (a1, .inr (7, [.int v_V_0, .int v_V_1, .int v_V_2, .ref a8, .ref a9, .int v_V_5, .ref a10, .ref a11, .ref a12, .ref a13, .ref a14, .ref a15, .ref a16, .ref a17, .ref a18]))] H := hP
  have hD : va_D A [(a0, .inr (9, [.ref a1, .ref a2, .ref a3, .int v_x_3, .int v_x_4, .ref a4, .ref a5, .ref a6, .ref a7])), (a1, .inr (7, [.int v_V_0, .int v_V_1, .int v_V_2, .ref a8, .ref a9, .int v_V_5, .ref a10, .ref a11, .ref a12, .ref a13, .ref a14, .ref a15, .ref a16, .ref a17, .ref a18]))] := hD
  have hq1 := hp
  refine lv_if_eq (tgt := 26) hx hb dX9_canWeigh_5 (by decide) (fun c2 => ?_) (fun c2 => ?_)
  · have dc2 : r1.toInt = 0 := (fa_eq _ _).mp c2
    refine lv_iconst (v := 0) hx hb dX9_canWeigh_26 (by decide) ?_
    have l_l3 : (0 : Int32).toInt = 0 := rfl
    rw [← hQm]
    exact k_zret hC hr hlk hK hP hD hS () [0, 1] rfl (by decide +kernel) rfl (show 0 ≤ (0 : Int32).toInt ∧ (0 : Int32).toInt ≤ 1 from by omega) (Nat.le_of_ble_eq_true rfl) (Nat.le_of_ble_eq_true rfl) dX9_canWeigh_27
  · have dc2 : r1.toInt ≠ 0 := fa_ne c2
    refine lv_aload_n hx hb dX9_canWeigh_8 rfl (lv_at hl 0 rfl) ?_
    refine lv_iload_n hx hb dX9_canWeigh_9 rfl (lv_at hl 2 rfl) ?_
    refine k_ci (wr := []) (k_rV hC hN hZ hS hA hK hP hD (c117_X9_isPile l G cI cJ cB cZ a0 a1 a2 a3 a4 a5 a6 a7 a8 a9 a10 a11 a12 a13 a14 a15 a16 a17 a18 b2 v_x_3 v_x_4 v_V_0 v_V_1 v_V_2 v_V_5 hv_0 hv_1 hv_2 hv_3 hv_4 hv_5) [0, 1] rfl (by decide +kernel) mi_X9_isPile in_X9_isPile se_X9_isPile wm_X9_245 9 0 rfl rfl rfl hl.1 rfl rfl (Nat.le_of_ble_eq_true rfl) ⟨(Nat.le_of_ble_eq_true rfl), (Nat.le_of_ble_eq_true rfl)⟩ dX9_canWeigh_10 ⟨(Nat.le_of_ble_eq_true rfl), (Nat.le_of_ble_eq_true rfl)⟩) hP hD hS hA [0, 1] [] rfl rfl (by decide +kernel) (by decide +kernel) (fun r4 u4 H locs hp hP hD hS => ?_)
    have hp : (0 ≤ r4.toInt ∧ r4.toInt ≤ 1) := hp
    have hP : va_P G cl [(a0, .inr (9, [.ref a1, .ref a2, .ref a3, .int v_x_3, .int v_x_4, .ref a4, .ref a5, .ref a6, .ref a7])), (a1, .inr (7, [.int v_V_0, .int v_V_1, .int v_V_2, .ref a8, .ref a9, .int v_V_5, .ref a10, .ref a11, .ref a12, .ref a13, .ref a14, .ref a15, .ref a16, .ref a17, .ref a18]))] H := hP
    have hD : va_D A [(a0, .inr (9, [.ref a1, .ref a2, .ref a3, .int v_x_3, .int v_x_4, .ref a4, .ref a5, .ref a6, .ref a7])), (a1, .inr (7, [.int v_V_0, .int v_V_1, .int v_V_2, .ref a8, .ref a9, .int v_V_5, .ref a10, .ref a11, .ref a12, .ref a13, .ref a14, .ref a15, .ref a16, .ref a17, .ref a18]))] := hD
    have hq4 := hp
    refine lv_if_eq (tgt := 26) hx hb dX9_canWeigh_13 (by decide) (fun c5 => ?_) (fun c5 => ?_)
    · have dc5 : r4.toInt = 0 := (fa_eq _ _).mp c5
      refine lv_iconst (v := 0) hx hb dX9_canWeigh_26 (by decide) ?_
      have l_l6 : (0 : Int32).toInt = 0 := rfl
      rw [← hQm]
      exact k_zret hC hr hlk hK hP hD hS () [0, 1] rfl (by decide +kernel) rfl (show 0 ≤ (0 : Int32).toInt ∧ (0 : Int32).toInt ≤ 1 from by omega) (Nat.le_of_ble_eq_true rfl) (Nat.le_of_ble_eq_true rfl) dX9_canWeigh_27
    · have dc5 : r4.toInt ≠ 0 := fa_ne c5
      refine lv_iload_n hx hb dX9_canWeigh_16 rfl (lv_at hl 1 rfl) ?_
      refine lv_iload_n hx hb dX9_canWeigh_17 rfl (lv_at hl 2 rfl) ?_
      refine lv_iand hx hb dX9_canWeigh_18 ?_
      refine lv_topi (fun z7 _ => ?_)
      refine lv_if_ne (tgt := 26) hx hb dX9_canWeigh_19 (by decide) (fun c8 => ?_) (fun c8 => ?_)
      · have dc8 : z7.toInt ≠ 0 := fa_ne c8; have lbc8_0 := i_lo z7; have ubc8_0 := i_hi z7
        refine lv_iconst (v := 0) hx hb dX9_canWeigh_26 (by decide) ?_
        have l_l9 : (0 : Int32).toInt = 0 := rfl
        rw [← hQm]
        exact k_zret hC hr hlk hK hP hD hS () [0, 1] rfl (by decide +kernel) rfl (show 0 ≤ (0 : Int32).toInt ∧ (0 : Int32).toInt ≤ 1 from by omega) (Nat.le_of_ble_eq_true rfl) (Nat.le_of_ble_eq_true rfl) dX9_canWeigh_27
      · have dc8 : z7.toInt = 0 := (fa_eq _ _).mp c8; have lbc8_0 := i_lo z7; have ubc8_0 := i_hi z7
        refine lv_iconst (v := 1) hx hb dX9_canWeigh_22 (by decide) ?_
        refine lv_goto (tgt := 27) hx hb dX9_canWeigh_23 (by decide) ?_
        have l_l10 : (1 : Int32).toInt = 1 := rfl
        rw [← hQm]
        exact k_zret hC hr hlk hK hP hD hS () [0, 1] rfl (by decide +kernel) rfl (show 0 ≤ (1 : Int32).toInt ∧ (1 : Int32).toInt ≤ 1 from by omega) (Nat.le_of_ble_eq_true rfl) (Nat.le_of_ble_eq_true rfl) dX9_canWeigh_27
theorem dX9_isYear_0 : decode cX9_isYear 0 = .ok (.iload_n 0, 1) := by decide +kernel
theorem dX9_isYear_1 : decode cX9_isYear 1 = .ok (.ifCond .lt 13, 3) := by decide +kernel
theorem dX9_isYear_14 : decode cX9_isYear 14 = .ok (.iconst 0, 1) := by decide +kernel
theorem dX9_isYear_15 : decode cX9_isYear 15 = .ok (.ireturn, 1) := by decide +kernel
theorem dX9_isYear_4 : decode cX9_isYear 4 = .ok (.iload_n 0, 1) := by decide +kernel
theorem dX9_isYear_5 : decode cX9_isYear 5 = .ok (.bipush 10, 2) := by decide +kernel
theorem dX9_isYear_7 : decode cX9_isYear 7 = .ok (.if_icmp .ge 7, 3) := by decide +kernel
theorem dX9_isYear_10 : decode cX9_isYear 10 = .ok (.iconst 1, 1) := by decide +kernel
theorem dX9_isYear_11 : decode cX9_isYear 11 = .ok (.goto 4, 3) := by decide +kernel
set_option maxHeartbeats 4000000 in
set_option maxRecDepth 100000 in
theorem c119_X9_isYear (l : Launch) (G : va_G) (cI cJ cB cZ : ClassId) (b0 : Int32) : Con l G (TY cI cJ cB cZ) yX9_isYear cX9_isYear 1 (some .boolean) ({ frames := 0, cells := 0, slots := 0, locals := 0 } : Room) [.int b0] [] (QI G (TY cI cJ cB cZ) (fun (r : Int32) (u : Unit) => (0 ≤ r.toInt ∧ r.toInt ≤ 1)) (fun u : Unit => [])) := by
  refine k_met (by decide) (Nat.le_of_ble_eq_true rfl) ?_
  intro p e s m below meth c A ls hC hr hlk hnm hN hZ hK hA hP hD hS hl
  have hl : lv_has ls 1 [(0, .int b0)] := hl
  generalize hQm : MQ below _ _ s _ _ A = Qm
  generalize (List.toArray _ : Array Value) = args at hC hQm ⊢
  obtain ⟨hx, hb, hml, hown, hts⟩ := id hC
  obtain ⟨H, hH⟩ : ∃ q, q = s.heap := ⟨_, rfl⟩
  obtain ⟨locs, hlo⟩ : ∃ q : List Loc, q = [] := ⟨_, rfl⟩
  have hP : va_P G cl [] H := by rw [hH]; exact hP
  have hS : va_S A s.heap H locs := by rw [hH, hlo]; exact hS
  rw [← hlo]
  rw [← hH]
  refine lv_iload_n hx hb dX9_isYear_0 rfl (lv_at hl 0 rfl) ?_
  refine lv_if_lt (tgt := 14) hx hb dX9_isYear_1 (by decide) (fun c1 => ?_) (fun c1 => ?_)
  · have dc1 : b0.toInt < 0 := (fa_lt _ _).mp c1; have lbc1_0 := i_lo b0; have ubc1_0 := i_hi b0
    refine lv_iconst (v := 0) hx hb dX9_isYear_14 (by decide) ?_
    have l_l2 : (0 : Int32).toInt = 0 := rfl
    rw [← hQm]
    exact k_zret hC hr hlk hK hP hD hS () [] rfl (by decide +kernel) rfl (show 0 ≤ (0 : Int32).toInt ∧ (0 : Int32).toInt ≤ 1 from by omega) (Nat.le_of_ble_eq_true rfl) (Nat.le_of_ble_eq_true rfl) dX9_isYear_15
  · have dc1 : 0 ≤ b0.toInt := fa_nlt c1; have lbc1_0 := i_lo b0; have ubc1_0 := i_hi b0
    refine lv_iload_n hx hb dX9_isYear_4 rfl (lv_at hl 0 rfl) ?_
    refine lv_bipush (v := 10) hx hb dX9_isYear_5 (by decide) ?_
    refine lv_icmp_ge (tgt := 14) hx hb dX9_isYear_7 (by decide) (fun c3 => ?_) (fun c3 => ?_)
    · have dc3 : 10 ≤ b0.toInt := (fa_le _ _).mp c3; have ubc3_1 := i_hi b0
      refine lv_iconst (v := 0) hx hb dX9_isYear_14 (by decide) ?_
      have l_l4 : (0 : Int32).toInt = 0 := rfl
      rw [← hQm]
      exact k_zret hC hr hlk hK hP hD hS () [] rfl (by decide +kernel) rfl (show 0 ≤ (0 : Int32).toInt ∧ (0 : Int32).toInt ≤ 1 from by omega) (Nat.le_of_ble_eq_true rfl) (Nat.le_of_ble_eq_true rfl) dX9_isYear_15
    · have dc3 : b0.toInt < 10 := fa_nle c3; have ubc3_1 := i_hi b0
      refine lv_iconst (v := 1) hx hb dX9_isYear_10 (by decide) ?_
      refine lv_goto (tgt := 15) hx hb dX9_isYear_11 (by decide) ?_
      have l_l5 : (1 : Int32).toInt = 1 := rfl
      rw [← hQm]
      exact k_zret hC hr hlk hK hP hD hS () [] rfl (by decide +kernel) rfl (show 0 ≤ (1 : Int32).toInt ∧ (1 : Int32).toInt ≤ 1 from by omega) (Nat.le_of_ble_eq_true rfl) (Nat.le_of_ble_eq_true rfl) dX9_isYear_15
theorem dX9_isTrader_0 : decode cX9_isTrader 0 = .ok (.iload_n 0, 1) := by decide +kernel
theorem dX9_isTrader_1 : decode cX9_isTrader 1 = .ok (.ifCond .lt 13, 3) := by decide +kernel
theorem dX9_isTrader_14 : decode cX9_isTrader 14 = .ok (.iconst 0, 1) := by decide +kernel
theorem dX9_isTrader_15 : decode cX9_isTrader 15 = .ok (.ireturn, 1) := by decide +kernel
theorem dX9_isTrader_4 : decode cX9_isTrader 4 = .ok (.iload_n 0, 1) := by decide +kernel
theorem dX9_isTrader_5 : decode cX9_isTrader 5 = .ok (.bipush 10, 2) := by decide +kernel
theorem dX9_isTrader_7 : decode cX9_isTrader 7 = .ok (.if_icmp .ge 7, 3) := by decide +kernel
theorem dX9_isTrader_10 : decode cX9_isTrader 10 = .ok (.iconst 1, 1) := by decide +kernel
theorem dX9_isTrader_11 : decode cX9_isTrader 11 = .ok (.goto 4, 3) := by decide +kernel
set_option maxHeartbeats 4000000 in
set_option maxRecDepth 100000 in
theorem c120_X9_isTrader (l : Launch) (G : va_G) (cI cJ cB cZ : ClassId) (b0 : Int32) : Con l G (TY cI cJ cB cZ) yX9_isTrader cX9_isTrader 1 (some .boolean) ({ frames := 0, cells := 0, slots := 0, locals := 0 } : Room) [.int b0] [] (QI G (TY cI cJ cB cZ) (fun (r : Int32) (u : Unit) => (0 ≤ r.toInt ∧ r.toInt ≤ 1)) (fun u : Unit => [])) := by
  refine k_met (by decide) (Nat.le_of_ble_eq_true rfl) ?_
  intro p e s m below meth c A ls hC hr hlk hnm hN hZ hK hA hP hD hS hl
  have hl : lv_has ls 1 [(0, .int b0)] := hl
  generalize hQm : MQ below _ _ s _ _ A = Qm
  generalize (List.toArray _ : Array Value) = args at hC hQm ⊢
  obtain ⟨hx, hb, hml, hown, hts⟩ := id hC
  obtain ⟨H, hH⟩ : ∃ q, q = s.heap := ⟨_, rfl⟩
  obtain ⟨locs, hlo⟩ : ∃ q : List Loc, q = [] := ⟨_, rfl⟩
  have hP : va_P G cl [] H := by rw [hH]; exact hP
  have hS : va_S A s.heap H locs := by rw [hH, hlo]; exact hS
  rw [← hlo]
  rw [← hH]
  refine lv_iload_n hx hb dX9_isTrader_0 rfl (lv_at hl 0 rfl) ?_
  refine lv_if_lt (tgt := 14) hx hb dX9_isTrader_1 (by decide) (fun c1 => ?_) (fun c1 => ?_)
  · have dc1 : b0.toInt < 0 := (fa_lt _ _).mp c1; have lbc1_0 := i_lo b0; have ubc1_0 := i_hi b0
    refine lv_iconst (v := 0) hx hb dX9_isTrader_14 (by decide) ?_
    have l_l2 : (0 : Int32).toInt = 0 := rfl
    rw [← hQm]
    exact k_zret hC hr hlk hK hP hD hS () [] rfl (by decide +kernel) rfl (show 0 ≤ (0 : Int32).toInt ∧ (0 : Int32).toInt ≤ 1 from by omega) (Nat.le_of_ble_eq_true rfl) (Nat.le_of_ble_eq_true rfl) dX9_isTrader_15
  · have dc1 : 0 ≤ b0.toInt := fa_nlt c1; have lbc1_0 := i_lo b0; have ubc1_0 := i_hi b0
    refine lv_iload_n hx hb dX9_isTrader_4 rfl (lv_at hl 0 rfl) ?_
    refine lv_bipush (v := 10) hx hb dX9_isTrader_5 (by decide) ?_
    refine lv_icmp_ge (tgt := 14) hx hb dX9_isTrader_7 (by decide) (fun c3 => ?_) (fun c3 => ?_)
    · have dc3 : 10 ≤ b0.toInt := (fa_le _ _).mp c3; have ubc3_1 := i_hi b0
      refine lv_iconst (v := 0) hx hb dX9_isTrader_14 (by decide) ?_
      have l_l4 : (0 : Int32).toInt = 0 := rfl
      rw [← hQm]
      exact k_zret hC hr hlk hK hP hD hS () [] rfl (by decide +kernel) rfl (show 0 ≤ (0 : Int32).toInt ∧ (0 : Int32).toInt ≤ 1 from by omega) (Nat.le_of_ble_eq_true rfl) (Nat.le_of_ble_eq_true rfl) dX9_isTrader_15
    · have dc3 : b0.toInt < 10 := fa_nle c3; have ubc3_1 := i_hi b0
      refine lv_iconst (v := 1) hx hb dX9_isTrader_10 (by decide) ?_
      refine lv_goto (tgt := 15) hx hb dX9_isTrader_11 (by decide) ?_
      have l_l5 : (1 : Int32).toInt = 1 := rfl
      rw [← hQm]
      exact k_zret hC hr hlk hK hP hD hS () [] rfl (by decide +kernel) rfl (show 0 ≤ (1 : Int32).toInt ∧ (1 : Int32).toInt ≤ 1 from by omega) (Nat.le_of_ble_eq_true rfl) (Nat.le_of_ble_eq_true rfl) dX9_isTrader_15
theorem dX9_weighed_0 : decode cX9_weighed 0 = .ok (.aload_n 0, 1) := by decide +kernel
theorem dX9_weighed_1 : decode cX9_weighed 1 = .ok (.iload_n 1, 1) := by decide +kernel
theorem dX9_weighed_2 : decode cX9_weighed 2 = .ok (.iload_n 2, 1) := by decide +kernel
theorem dX9_weighed_3 : decode cX9_weighed 3 = .ok (.invokevirtual 99, 3) := by decide +kernel
set_option maxRecDepth 100000 in
theorem wm_X9_99 : Cond.methodLink RX9 99 yX9_canWeigh ∈ gw := gm (List.mem_of_getElem? (i := 742) (by decide +kernel)) rfl
set_option maxRecDepth 100000 in
theorem mi_X9_canWeigh : MI yX9_canWeigh cX9_canWeigh 3 (some .boolean) 2 := ⟨gm (List.mem_of_getElem? (i := 745) rfl) rfl, gm (List.mem_of_getElem? (i := 112) (by decide +kernel)) rfl, by decide, by decide, by decide +kernel⟩
set_option maxRecDepth 100000 in
theorem in_X9_canWeigh : Cond.instanceMethod yX9_canWeigh ∈ gw := gm (List.mem_of_getElem? (i := 744) (by decide +kernel)) rfl
set_option maxRecDepth 100000 in
theorem se_X9_canWeigh : Cond.selects yX9_canWeigh.cls yX9_canWeigh yX9_canWeigh ∈ gw := gm (List.mem_of_getElem? (i := 19) (by decide +kernel)) rfl
theorem dX9_weighed_6 : decode cX9_weighed 6 = .ok (.ifCond .eq 18, 3) := by decide +kernel
theorem dX9_weighed_24 : decode cX9_weighed 24 = .ok (.iconst (-1), 1) := by decide +kernel
theorem dX9_weighed_25 : decode cX9_weighed 25 = .ok (.ireturn, 1) := by decide +kernel
theorem dX9_weighed_9 : decode cX9_weighed 9 = .ok (.iload_n 3, 1) := by decide +kernel
theorem dX9_weighed_10 : decode cX9_weighed 10 = .ok (.invokestatic 103, 3) := by decide +kernel
set_option maxRecDepth 100000 in
theorem wm_X9_103 : Cond.methodLink RX9 103 yX9_isYear ∈ gw := gm (List.mem_of_getElem? (i := 750) (by decide +kernel)) rfl
set_option maxRecDepth 100000 in
theorem mi_X9_isYear : MI yX9_isYear cX9_isYear 1 (some .boolean) 1 := ⟨gm (List.mem_of_getElem? (i := 752) rfl) rfl, gm (List.mem_of_getElem? (i := 112) (by decide +kernel)) rfl, by decide, by decide, by decide +kernel⟩
set_option maxRecDepth 100000 in
theorem st_X9_isYear : Cond.static yX9_isYear ∈ gw := gm (List.mem_of_getElem? (i := 751) (by decide +kernel)) rfl
theorem dX9_weighed_13 : decode cX9_weighed 13 = .ok (.ifCond .eq 11, 3) := by decide +kernel
theorem dX9_weighed_16 : decode cX9_weighed 16 = .ok (.iload 4, 2) := by decide +kernel
theorem dX9_weighed_18 : decode cX9_weighed 18 = .ok (.invokestatic 107, 3) := by decide +kernel
set_option maxRecDepth 100000 in
theorem wm_X9_107 : Cond.methodLink RX9 107 yX9_isTrader ∈ gw := gm (List.mem_of_getElem? (i := 753) (by decide +kernel)) rfl
set_option maxRecDepth 100000 in
theorem mi_X9_isTrader : MI yX9_isTrader cX9_isTrader 1 (some .boolean) 1 := ⟨gm (List.mem_of_getElem? (i := 755) rfl) rfl, gm (List.mem_of_getElem? (i := 112) (by decide +kernel)) rfl, by decide, by decide, by decide +kernel⟩
set_option maxRecDepth 100000 in
theorem st_X9_isTrader : Cond.static yX9_isTrader ∈ gw := gm (List.mem_of_getElem? (i := 754) (by decide +kernel)) rfl
theorem dX9_weighed_21 : decode cX9_weighed 21 = .ok (.ifCond .ne 5, 3) := by decide +kernel
theorem dX9_weighed_26 : decode cX9_weighed 26 = .ok (.iload 5, 2) := by decide +kernel
theorem dX9_weighed_28 : decode cX9_weighed 28 = .ok (.ifCond .lt 21, 3) := by decide +kernel
theorem dX9_weighed_49 : decode cX9_weighed 49 = .ok (.iconst (-1), 1) := by decide +kernel
theorem dX9_weighed_50 : decode cX9_weighed 50 = .ok (.ireturn, 1) := by decide +kernel
theorem dX9_weighed_31 : decode cX9_weighed 31 = .ok (.iload 5, 2) := by decide +kernel
theorem dX9_weighed_33 : decode cX9_weighed 33 = .ok (.iconst 2, 1) := by decide +kernel
theorem dX9_weighed_34 : decode cX9_weighed 34 = .ok (.if_icmp .gt 15, 3) := by decide +kernel
theorem dX9_weighed_37 : decode cX9_weighed 37 = .ok (.aload_n 0, 1) := by decide +kernel
theorem dX9_weighed_38 : decode cX9_weighed 38 = .ok (.getfield 28, 3) := by decide +kernel
set_option maxRecDepth 100000 in
theorem wf_X9_28 : Cond.fieldLink RX9 28 "StoneTrust" "others" "LStoneTrust$Weighings;" ∈ gw := gm (List.mem_of_getElem? (i := 541) (by decide +kernel)) rfl
theorem dX9_weighed_41 : decode cX9_weighed 41 = .ok (.getfield 85, 3) := by decide +kernel
set_option maxRecDepth 100000 in
theorem wf_X9_85 : Cond.fieldLinkNest RX9 85 "StoneTrust$Weighings" "size" "I" "StoneTrust" ∈ nests := nm_ (List.mem_of_getElem? (i := 166) (by decide +kernel)) rfl
theorem dX9_weighed_44 : decode cX9_weighed 44 = .ok (.bipush 30, 2) := by decide +kernel
theorem dX9_weighed_46 : decode cX9_weighed 46 = .ok (.if_icmp .lt 5, 3) := by decide +kernel
theorem dX9_weighed_51 : decode cX9_weighed 51 = .ok (.aload_n 0, 1) := by decide +kernel
theorem dX9_weighed_52 : decode cX9_weighed 52 = .ok (.getfield 28, 3) := by decide +kernel
theorem dX9_weighed_55 : decode cX9_weighed 55 = .ok (.getfield 85, 3) := by decide +kernel
theorem dX9_weighed_58 : decode cX9_weighed 58 = .ok (.istore 6, 2) := by decide +kernel
theorem dX9_weighed_60 : decode cX9_weighed 60 = .ok (.aload_n 0, 1) := by decide +kernel
theorem dX9_weighed_61 : decode cX9_weighed 61 = .ok (.getfield 28, 3) := by decide +kernel
theorem dX9_weighed_64 : decode cX9_weighed 64 = .ok (.iload_n 1, 1) := by decide +kernel
theorem dX9_weighed_65 : decode cX9_weighed 65 = .ok (.iload_n 2, 1) := by decide +kernel
theorem dX9_weighed_66 : decode cX9_weighed 66 = .ok (.iload_n 3, 1) := by decide +kernel
theorem dX9_weighed_67 : decode cX9_weighed 67 = .ok (.iload 4, 2) := by decide +kernel
theorem dX9_weighed_69 : decode cX9_weighed 69 = .ok (.iload 5, 2) := by decide +kernel
theorem dX9_weighed_71 : decode cX9_weighed 71 = .ok (.invokevirtual 110, 3) := by decide +kernel
set_option maxRecDepth 100000 in
theorem wm_X9_110 : Cond.methodLink RX9 110 yX8_put ∈ gw := gm (List.mem_of_getElem? (i := 756) (by decide +kernel)) rfl
theorem dX9_weighed_74 : decode cX9_weighed 74 = .ok (.aload_n 0, 1) := by decide +kernel
theorem dX9_weighed_75 : decode cX9_weighed 75 = .ok (.getfield 28, 3) := by decide +kernel
theorem dX9_weighed_78 : decode cX9_weighed 78 = .ok (.iload 6, 2) := by decide +kernel
theorem dX9_weighed_80 : decode cX9_weighed 80 = .ok (.aload_n 0, 1) := by decide +kernel
theorem dX9_weighed_81 : decode cX9_weighed 81 = .ok (.getfield 32, 3) := by decide +kernel
set_option maxRecDepth 100000 in
theorem wf_X9_32 : Cond.fieldLink RX9 32 "StoneTrust" "time" "I" ∈ gw := gm (List.mem_of_getElem? (i := 542) (by decide +kernel)) rfl
theorem dX9_weighed_84 : decode cX9_weighed 84 = .ok (.invokevirtual 114, 3) := by decide +kernel
set_option maxRecDepth 100000 in
theorem wm_X9_114 : Cond.methodLink RX9 114 yX8_setTold ∈ gw := gm (List.mem_of_getElem? (i := 757) (by decide +kernel)) rfl
set_option maxRecDepth 100000 in
theorem mi_X8_setTold : MI yX8_setTold cX8_setTold 3 none 2 := ⟨gm (List.mem_of_getElem? (i := 760) rfl) rfl, gm (List.mem_of_getElem? (i := 114) (by decide +kernel)) rfl, by decide, by decide, by decide +kernel⟩
set_option maxRecDepth 100000 in
theorem in_X8_setTold : Cond.instanceMethod yX8_setTold ∈ gw := gm (List.mem_of_getElem? (i := 758) (by decide +kernel)) rfl
set_option maxRecDepth 100000 in
theorem se_X8_setTold : Cond.selects yX8_setTold.cls yX8_setTold yX8_setTold ∈ gw := gm (List.mem_of_getElem? (i := 759) (by decide +kernel)) rfl
theorem dX9_weighed_87 : decode cX9_weighed 87 = .ok (.iload 6, 2) := by decide +kernel
theorem dX9_weighed_89 : decode cX9_weighed 89 = .ok (.ireturn, 1) := by decide +kernel
set_option maxHeartbeats 4000000 in
set_option maxRecDepth 100000 in
theorem c121_X9_weighed (l : Launch) (G : va_G) (cI cJ cB cZ : ClassId) (a0 a1 a2 a3 a4 a5 a6 a7 a8 a9 a10 a11 a12 a13 a14 a15 a16 a17 a18 a19 a20 a21 a22 a23 a24 a25 : Nat) (b1 : Int32) (b2 : Int32) (b3 : Int32) (b4 : Int32) (b5 : Int32) (v_x_3 : Int32) (v_x_4 : Int32) (v_V_0 : Int32) (v_V_1 : Int32) (v_V_2 : Int32) (v_V_5 : Int32) (v_ot_7 : Int32) (g_ot_left : Nat → Int32) (g_ot_right : Nat → Int32) (g_ot_year : Nat → Int32) (g_ot_trader : Nat → Int32) (g_ot_how : Nat → Int32) (g_ot_told : Nat → Int32) (g_ot_untold : Nat → Int32) (hv_0 : 0 ≤ v_V_0.toInt) (hv_1 : v_V_0.toInt ≤ 110) (hv_2 : 0 ≤ v_V_1.toInt) (hv_3 : v_V_1.toInt ≤ 110) (hv_4 : 0 ≤ v_V_5.toInt) (hv_5 : v_V_5.toInt ≤ 6) (hv_6 : 0 ≤ v_ot_7.toInt) (hv_7 : v_ot_7.toInt ≤ 30) : Con l G (TY cI cJ cB cZ) yX9_weighed cX9_weighed 7 (some .int) ({ frames := 2, cells := 0, slots := 0, locals := 43 } : Room) [.ref a0, .int b1, .int b2, .int b3, .int b4, .int b5] [(a0, .inr (9, [.ref a1, .ref a2, .ref a3, .int v_x_3, .int v_x_4, .ref a4, .ref a5, .ref a6, .ref a7])), (a1, .inr (7, [.int v_V_0, .int v_V_1, .int v_V_2, .ref a8, .ref a9, .int v_V_5, .ref a10, .ref a11, .ref a12, .ref a13, .ref a14, .ref a15, .ref a16, .ref a17, .ref a18])), (a3, .inr (8, [.ref a19, .ref a20, .ref a21, .ref a22, .ref a23, .ref a24, .ref a25, .int v_ot_7])), (a19, .inl (cI, 30, .inl g_ot_left)), (a20, .inl (cI, 30, .inl g_ot_right)), (a21, .inl (cI, 30, .inl g_ot_year)), (a22, .inl (cI, 30, .inl g_ot_trader)), (a23, .inl (cI, 30, .inl g_ot_how)), (a24, .inl (cI, 30, .inl g_ot_told)), (a25, .inl (cI, 30, .inl g_ot_untold))] (QI G (TY cI cJ cB cZ) (fun (r : Int32) (u : Int32 × (Nat → Int32) × (Nat → Int32) × (Nat → Int32) × (Nat → Int32) × (Nat → Int32) × (Nat → Int32) × (Nat → Int32)) => ((-1) ≤ r.toInt ∧ r.toInt ≤ 29 ∧ 0 ≤ u.1.toInt ∧ u.1.toInt ≤ 30)) (fun u : Int32 × (Nat → Int32) × (Nat → Int32) × (Nat → Int32) × (Nat → Int32) × (Nat → Int32) × (Nat → Int32) × (Nat → Int32) => [(a0, .inr (9, [.ref a1, .ref a2, .ref a3, .int v_x_3, .int v_x_4, .ref a4, .ref a5, .ref a6, .ref a7])), (a1, .inr (7, [.int v_V_0, .int v_V_1, .int v_V_2, .ref a8, .ref a9, .int v_V_5, .ref a10, .ref a11, .ref a12, .ref a13, .ref a14, .ref a15, .ref a16, .ref a17, .ref a18])), (a3, .inr (8, [.ref a19, .ref a20, .ref a21, .ref a22, .ref a23, .ref a24, .ref a25, .int u.1])), (a19, .inl (cI, 30, .inl u.2.1)), (a20, .inl (cI, 30, .inl u.2.2.1)), (a21, .inl (cI, 30, .inl u.2.2.2.1)), (a22, .inl (cI, 30, .inl u.2.2.2.2.1)), (a23, .inl (cI, 30, .inl u.2.2.2.2.2.1)), (a24, .inl (cI, 30, .inl u.2.2.2.2.2.2.1)), (a25, .inl (cI, 30, .inl u.2.2.2.2.2.2.2))])) := by
  refine k_met (by decide) (Nat.le_of_ble_eq_true rfl) ?_
  intro p e s m below meth c A ls hC hr hlk hnm hN hZ hK hA hP hD hS hl
  have hl : lv_has ls 7 [(0, .ref a0), (1, .int b1), (2, .int b2), (3, .int b3), (4, .int b4), (5, .int b5)] := hl
  generalize hQm : MQ below _ _ s _ _ A = Qm
  generalize (List.toArray _ : Array Value) = args at hC hQm ⊢
  obtain ⟨hx, hb, hml, hown, hts⟩ := id hC
  obtain ⟨H, hH⟩ : ∃ q, q = s.heap := ⟨_, rfl⟩
  obtain ⟨locs, hlo⟩ : ∃ q : List Loc, q = [] := ⟨_, rfl⟩
  have hP : va_P G cl [(a0, .inr (9, [.ref a1, .ref a2, .ref a3, .int v_x_3, .int v_x_4, .ref a4, .ref a5, .ref a6, .ref a7])), (a1, .inr (7, [.int v_V_0, .int v_V_1, .int v_V_2, .ref a8, .ref a9, .int v_V_5, .ref a10, .ref a11, .ref a12, .ref a13, .ref a14, .ref a15, .ref a16, .ref a17, .ref a18])), (a3, .inr (8, [.ref a19, .ref a20, .ref a21, .ref a22, .ref a23, .ref a24, .ref a25, .int v_ot_7])), (a19, .inl (cI, 30, .inl g_ot_left)), (a20, .inl (cI, 30, .inl g_ot_right)), (a21, .inl (cI, 30, .inl g_ot_year)), (a22, .inl (cI, 30, .inl g_ot_trader)), (a23, .inl (cI, 30, .inl g_ot_how)), (a24, .inl (cI, 30, .inl g_ot_told)), (a25, .inl (cI, 30, .inl g_ot_untold))] H := by rw [hH]; exact hP
  have hS : va_S A s.heap H locs := by rw [hH, hlo]; exact hS
  rw [← hlo]
  rw [← hH]
  refine lv_aload_n hx hb dX9_weighed_0 rfl (lv_at hl 0 rfl) ?_
  refine lv_iload_n hx hb dX9_weighed_1 rfl (lv_at hl 1 rfl) ?_
  refine lv_iload_n hx hb dX9_weighed_2 rfl (lv_at hl 2 rfl) ?_
  refine k_ci (wr := [(a3, .inr (8, [.ref a19, .ref a20, .ref a21, .ref a22, .ref a23, .ref a24, .ref a25, .int v_ot_7])), (a19, .inl (cI, 30, .inl g_ot_left)), (a20, .inl (cI, 30, .inl g_ot_right)), (a21, .inl (cI, 30, .inl g_ot_year)), (a22, .inl (cI, 30, .inl g_ot_trader)), (a23, .inl (cI, 30, .inl g_ot_how)), (a24, .inl (cI, 30, .inl g_ot_told)), (a25, .inl (cI, 30, .inl g_ot_untold))]) (k_rV hC hN hZ hS hA hK hP hD (c118_X9_canWeigh l G cI cJ cB cZ a0 a1 a2 a3 a4 a5 a6 a7 a8 a9 a10 a11 a12 a13 a14 a15 a16 a17 a18 b1 b2 v_x_3 v_x_4 v_V_0 v_V_1 v_V_2 v_V_5 hv_0 hv_1 hv_2 hv_3 hv_4 hv_5) [0, 1] rfl (by decide +kernel) mi_X9_canWeigh in_X9_canWeigh se_X9_canWeigh wm_X9_99 9 0 rfl rfl rfl hl.1 rfl rfl (Nat.le_of_ble_eq_true rfl) ⟨(Nat.le_of_ble_eq_true rfl), (Nat.le_of_ble_eq_true rfl)⟩ dX9_weighed_3 ⟨(Nat.le_of_ble_eq_true rfl), (Nat.le_of_ble_eq_true rfl)⟩) hP hD hS hA [0, 1] [2, 3, 4, 5, 6, 7, 8, 9] rfl rfl (by decide +kernel) (by decide +kernel) (fun r1 u1 H locs hp hP hD hS => ?_)
  have hp : (0 ≤ r1.toInt ∧ r1.toInt ≤ 1) := hp
  have hP : va_P G cl [(a3, .inr (8, [.ref a19, .ref a20, .ref a21, .ref a22, .ref a23, .ref a24, .ref a25, .int v_ot_7])), (a19, .inl (cI, 30, .inl g_ot_left)), (a20, .inl (cI, 30, .inl g_ot_right)), (a21, .inl (cI, 30, .inl g_ot_year)), (a22, .inl (cI, 30, .inl g_ot_trader)), (a23, .inl (cI, 30, .inl g_ot_how)), (a24, .inl (cI, 30, .inl g_ot_told)), (a25, .inl (cI, 30, .inl g_ot_untold)), (a0, .inr (9, [.ref a1, .ref a2, .ref a3, .int v_x_3, .int v_x_4, .ref a4, .ref a5, .ref a6, .ref a7])), (a1, .inr (7, [.int v_V_0, .int v_V_1, .int v_V_2, .ref a8, .ref a9, .int v_V_5, .ref a10, .ref a11, .ref a12, .ref a13, .ref a14, .ref a15, .ref a16, .ref a17, .ref a18]))] H := hP
  have hD : va_D A [(a3, .inr (8, [.ref a19, .ref a20, .ref a21, .ref a22, .ref a23, .ref a24, .ref a25, .int v_ot_7])), (a19, .inl (cI, 30, .inl g_ot_left)), (a20, .inl (cI, 30, .inl g_ot_right)), (a21, .inl (cI, 30, .inl g_ot_year)), (a22, .inl (cI, 30, .inl g_ot_trader)), (a23, .inl (cI, 30, .inl g_ot_how)), (a24, .inl (cI, 30, .inl g_ot_told)), (a25, .inl (cI, 30, .inl g_ot_untold)), (a0, .inr (9, [.ref a1, .ref a2, .ref a3, .int v_x_3, .int v_x_4, .ref a4, .ref a5, .ref a6, .ref a7])), (a1, .inr (7, [.int v_V_0, .int v_V_1, .int v_V_2, .ref a8, .ref a9, .int v_V_5, .ref a10, .ref a11, .ref a12, .ref a13, .ref a14, .ref a15, .ref a16, .ref a17, .ref a18]))] := hD
  have hq1 := hp
  refine lv_if_eq (tgt := 24) hx hb dX9_weighed_6 (by decide) (fun c2 => ?_) (fun c2 => ?_)
  · have dc2 : r1.toInt = 0 := (fa_eq _ _).mp c2
    refine lv_iconst (v := (-1)) hx hb dX9_weighed_24 (by decide) ?_
    have l_l3 : ((-1) : Int32).toInt = (-1) := rfl
    rw [← hQm]
    exact k_iret hC hr hlk hK hP hD hS (v_ot_7, g_ot_left, g_ot_right, g_ot_year, g_ot_trader, g_ot_how, g_ot_told, g_ot_untold) [8, 9, 0, 1, 2, 3, 4, 5, 6, 7] rfl (by decide +kernel) (show (-1) ≤ ((-1) : Int32).toInt ∧ ((-1) : Int32).toInt ≤ 29 ∧ 0 ≤ v_ot_7.toInt ∧ v_ot_7.toInt ≤ 30 from by omega) (Nat.le_of_ble_eq_true rfl) (Nat.le_of_ble_eq_true rfl) dX9_weighed_25
  · have dc2 : r1.toInt ≠ 0 := fa_ne c2
    refine lv_iload_n hx hb dX9_weighed_9 rfl (lv_at hl 3 rfl) ?_
    refine k_ci (wr := [(a3, .inr (8, [.ref a19, .ref a20, .ref a21, .ref a22, .ref a23, .ref a24, .ref a25, .int v_ot_7])), (a19, .inl (cI, 30, .inl g_ot_left)), (a20, .inl (cI, 30, .inl g_ot_right)), (a21, .inl (cI, 30, .inl g_ot_year)), (a22, .inl (cI, 30, .inl g_ot_trader)), (a23, .inl (cI, 30, .inl g_ot_how)), (a24, .inl (cI, 30, .inl g_ot_told)), (a25, .inl (cI, 30, .inl g_ot_untold)), (a0, .inr (9, [.ref a1, .ref a2, .ref a3, .int v_x_3, .int v_x_4, .ref a4, .ref a5, .ref a6, .ref a7])), (a1, .inr (7, [.int v_V_0, .int v_V_1, .int v_V_2, .ref a8, .ref a9, .int v_V_5, .ref a10, .ref a11, .ref a12, .ref a13, .ref a14, .ref a15, .ref a16, .ref a17, .ref a18]))]) (k_rS hC hN hZ hS hA hK hP hD (c119_X9_isYear l G cI cJ cB cZ b3) [] rfl (by decide +kernel) mi_X9_isYear st_X9_isYear wm_X9_103 hl.1 rfl rfl (Nat.le_of_ble_eq_true rfl) ⟨(Nat.le_of_ble_eq_true rfl), (Nat.le_of_ble_eq_true rfl)⟩ dX9_weighed_10 ⟨(Nat.le_of_ble_eq_true rfl), (Nat.le_of_ble_eq_true rfl)⟩) hP hD hS hA [] [0, 1, 2, 3, 4, 5, 6, 7, 8, 9] rfl rfl (by decide +kernel) (by decide +kernel) (fun r4 u4 H locs hp hP hD hS => ?_)
    have hp : (0 ≤ r4.toInt ∧ r4.toInt ≤ 1) := hp
    have hP : va_P G cl [(a3, .inr (8, [.ref a19, .ref a20, .ref a21, .ref a22, .ref a23, .ref a24, .ref a25, .int v_ot_7])), (a19, .inl (cI, 30, .inl g_ot_left)), (a20, .inl (cI, 30, .inl g_ot_right)), (a21, .inl (cI, 30, .inl g_ot_year)), (a22, .inl (cI, 30, .inl g_ot_trader)), (a23, .inl (cI, 30, .inl g_ot_how)), (a24, .inl (cI, 30, .inl g_ot_told)), (a25, .inl (cI, 30, .inl g_ot_untold)), (a0, .inr (9, [.ref a1, .ref a2, .ref a3, .int v_x_3, .int v_x_4, .ref a4, .ref a5, .ref a6, .ref a7])), (a1, .inr (7, [.int v_V_0, .int v_V_1, .int v_V_2, .ref a8, .ref a9, .int v_V_5, .ref a10, .ref a11, .ref a12, .ref a13, .ref a14, .ref a15, .ref a16, .ref a17, .ref a18]))] H := hP
    have hD : va_D A [(a3, .inr (8, [.ref a19, .ref a20, .ref a21, .ref a22, .ref a23, .ref a24, .ref a25, .int v_ot_7])), (a19, .inl (cI, 30, .inl g_ot_left)), (a20, .inl (cI, 30, .inl g_ot_right)), (a21, .inl (cI, 30, .inl g_ot_year)), (a22, .inl (cI, 30, .inl g_ot_trader)), (a23, .inl (cI, 30, .inl g_ot_how)), (a24, .inl (cI, 30, .inl g_ot_told)), (a25, .inl (cI, 30, .inl g_ot_untold)), (a0, .inr (9, [.ref a1, .ref a2, .ref a3, .int v_x_3, .int v_x_4, .ref a4, .ref a5, .ref a6, .ref a7])), (a1, .inr (7, [.int v_V_0, .int v_V_1, .int v_V_2, .ref a8, .ref a9, .int v_V_5, .ref a10, .ref a11, .ref a12, .ref a13, .ref a14, .ref a15, .ref a16, .ref a17, .ref a18]))] := hD
    have hq4 := hp
    refine lv_if_eq (tgt := 24) hx hb dX9_weighed_13 (by decide) (fun c5 => ?_) (fun c5 => ?_)
    · have dc5 : r4.toInt = 0 := (fa_eq _ _).mp c5
      refine lv_iconst (v := (-1)) hx hb dX9_weighed_24 (by decide) ?_
      have l_l6 : ((-1) : Int32).toInt = (-1) := rfl
      rw [← hQm]
      exact k_iret hC hr hlk hK hP hD hS (v_ot_7, g_ot_left, g_ot_right, g_ot_year, g_ot_trader, g_ot_how, g_ot_told, g_ot_untold) [8, 9, 0, 1, 2, 3, 4, 5, 6, 7] rfl (by decide +kernel) (show (-1) ≤ ((-1) : Int32).toInt ∧ ((-1) : Int32).toInt ≤ 29 ∧ 0 ≤ v_ot_7.toInt ∧ v_ot_7.toInt ≤ 30 from by omega) (Nat.le_of_ble_eq_true rfl) (Nat.le_of_ble_eq_true rfl) dX9_weighed_25
    · have dc5 : r4.toInt ≠ 0 := fa_ne c5
      refine lv_iload hx hb dX9_weighed_16 (lv_at hl 4 rfl) ?_
      refine k_ci (wr := [(a3, .inr (8, [.ref a19, .ref a20, .ref a21, .ref a22, .ref a23, .ref a24, .ref a25, .int v_ot_7])), (a19, .inl (cI, 30, .inl g_ot_left)), (a20, .inl (cI, 30, .inl g_ot_right)), (a21, .inl (cI, 30, .inl g_ot_year)), (a22, .inl (cI, 30, .inl g_ot_trader)), (a23, .inl (cI, 30, .inl g_ot_how)), (a24, .inl (cI, 30, .inl g_ot_told)), (a25, .inl (cI, 30, .inl g_ot_untold)), (a0, .inr (9, [.ref a1, .ref a2, .ref a3, .int v_x_3, .int v_x_4, .ref a4, .ref a5, .ref a6, .ref a7])), (a1, .inr (7, [.int v_V_0, .int v_V_1, .int v_V_2, .ref a8, .ref a9, .int v_V_5, .ref a10, .ref a11, .ref a12, .ref a13, .ref a14, .ref a15, .ref a16, .ref a17, .ref a18]))]) (k_rS hC hN hZ hS hA hK hP hD (c120_X9_isTrader l G cI cJ cB cZ b4) [] rfl (by decide +kernel) mi_X9_isTrader st_X9_isTrader wm_X9_107 hl.1 rfl rfl (Nat.le_of_ble_eq_true rfl) ⟨(Nat.le_of_ble_eq_true rfl), (Nat.le_of_ble_eq_true rfl)⟩ dX9_weighed_18 ⟨(Nat.le_of_ble_eq_true rfl), (Nat.le_of_ble_eq_true rfl)⟩) hP hD hS hA [] [0, 1, 2, 3, 4, 5, 6, 7, 8, 9] rfl rfl (by decide +kernel) (by decide +kernel) (fun r7 u7 H locs hp hP hD hS => ?_)
      have hp : (0 ≤ r7.toInt ∧ r7.toInt ≤ 1) := hp
      have hP : va_P G cl [(a3, .inr (8, [.ref a19, .ref a20, .ref a21, .ref a22, .ref a23, .ref a24, .ref a25, .int v_ot_7])), (a19, .inl (cI, 30, .inl g_ot_left)), (a20, .inl (cI, 30, .inl g_ot_right)), (a21, .inl (cI, 30, .inl g_ot_year)), (a22, .inl (cI, 30, .inl g_ot_trader)), (a23, .inl (cI, 30, .inl g_ot_how)), (a24, .inl (cI, 30, .inl g_ot_told)), (a25, .inl (cI, 30, .inl g_ot_untold)), (a0, .inr (9, [.ref a1, .ref a2, .ref a3, .int v_x_3, .int v_x_4, .ref a4, .ref a5, .ref a6, .ref a7])), (a1, .inr (7, [.int v_V_0, .int v_V_1, .int v_V_2, .ref a8, .ref a9, .int v_V_5, .ref a10, .ref a11, .ref a12, .ref a13, .ref a14, .ref a15, .ref a16, .ref a17, .ref a18]))] H := hP
      have hD : va_D A [(a3, .inr (8, [.ref a19, .ref a20, .ref a21, .ref a22, .ref a23, .ref a24, .ref a25, .int v_ot_7])), (a19, .inl (cI, 30, .inl g_ot_left)), (a20, .inl (cI, 30, .inl g_ot_right)), (a21, .inl (cI, 30, .inl g_ot_year)), (a22, .inl (cI, 30, .inl g_ot_trader)), (a23, .inl (cI, 30, .inl g_ot_how)), (a24, .inl (cI, 30, .inl g_ot_told)), (a25, .inl (cI, 30, .inl g_ot_untold)), (a0, .inr (9, [.ref a1, .ref a2, .ref a3, .int v_x_3, .int v_x_4, .ref a4, .ref a5, .ref a6, .ref a7])), (a1, .inr (7, [.int v_V_0, .int v_V_1, .int v_V_2, .ref a8, .ref a9, .int v_V_5, .ref a10, .ref a11, .ref a12, .ref a13, .ref a14, .ref a15, .ref a16, .ref a17, .ref a18]))] := hD
      have hq7 := hp
      refine lv_if_ne (tgt := 26) hx hb dX9_weighed_21 (by decide) (fun c8 => ?_) (fun c8 => ?_)
      · have dc8 : r7.toInt ≠ 0 := fa_ne c8
        refine lv_iload hx hb dX9_weighed_26 (lv_at hl 5 rfl) ?_
        refine lv_if_lt (tgt := 49) hx hb dX9_weighed_28 (by decide) (fun c9 => ?_) (fun c9 => ?_)
        · have dc9 : b5.toInt < 0 := (fa_lt _ _).mp c9; have lbc9_0 := i_lo b5; have ubc9_0 := i_hi b5
          refine lv_iconst (v := (-1)) hx hb dX9_weighed_49 (by decide) ?_
          have l_l10 : ((-1) : Int32).toInt = (-1) := rfl
          rw [← hQm]
          exact k_iret hC hr hlk hK hP hD hS (v_ot_7, g_ot_left, g_ot_right, g_ot_year, g_ot_trader, g_ot_how, g_ot_told, g_ot_untold) [8, 9, 0, 1, 2, 3, 4, 5, 6, 7] rfl (by decide +kernel) (show (-1) ≤ ((-1) : Int32).toInt ∧ ((-1) : Int32).toInt ≤ 29 ∧ 0 ≤ v_ot_7.toInt ∧ v_ot_7.toInt ≤ 30 from by omega) (Nat.le_of_ble_eq_true rfl) (Nat.le_of_ble_eq_true rfl) dX9_weighed_50
        · have dc9 : 0 ≤ b5.toInt := fa_nlt c9; have lbc9_0 := i_lo b5; have ubc9_0 := i_hi b5
          refine lv_iload hx hb dX9_weighed_31 (lv_at hl 5 rfl) ?_
          refine lv_iconst (v := 2) hx hb dX9_weighed_33 (by decide) ?_
          refine lv_icmp_gt (tgt := 49) hx hb dX9_weighed_34 (by decide) (fun c11 => ?_) (fun c11 => ?_)
          · have dc11 : 2 < b5.toInt := (fa_lt _ _).mp c11; have ubc11_1 := i_hi b5
            refine lv_iconst (v := (-1)) hx hb dX9_weighed_49 (by decide) ?_
            have l_l12 : ((-1) : Int32).toInt = (-1) := rfl
            rw [← hQm]
            exact k_iret hC hr hlk hK hP hD hS (v_ot_7, g_ot_left, g_ot_right, g_ot_year, g_ot_trader, g_ot_how, g_ot_told, g_ot_untold) [8, 9, 0, 1, 2, 3, 4, 5, 6, 7] rfl (by decide +kernel) (show (-1) ≤ ((-1) : Int32).toInt ∧ ((-1) : Int32).toInt ≤ 29 ∧ 0 ≤ v_ot_7.toInt ∧ v_ot_7.toInt ≤ 30 from by omega) (Nat.le_of_ble_eq_true rfl) (Nat.le_of_ble_eq_true rfl) dX9_weighed_50
          · have dc11 : b5.toInt ≤ 2 := fa_nlt c11; have ubc11_1 := i_hi b5
            refine lv_aload_n hx hb dX9_weighed_37 rfl (lv_at hl 0 rfl) ?_
            refine k_get hC hK hP iX9 8 2 wf_X9_28 rfl (by decide) rfl rfl dX9_weighed_38 ?_
            refine k_getN hC hN hK hP iX8 0 7 wf_X9_85 rfl (by decide) rfl rfl dX9_weighed_41 ?_
            refine lv_bipush (v := 30) hx hb dX9_weighed_44 (by decide) ?_
            refine lv_icmp_lt (tgt := 51) hx hb dX9_weighed_46 (by decide) (fun c13 => ?_) (fun c13 => ?_)
            · have dc13 : v_ot_7.toInt < 30 := (fa_lt _ _).mp c13
              refine lv_aload_n hx hb dX9_weighed_51 rfl (lv_at hl 0 rfl) ?_
              refine k_get hC hK hP iX9 8 2 wf_X9_28 rfl (by decide) rfl rfl dX9_weighed_52 ?_
              refine k_getN hC hN hK hP iX8 0 7 wf_X9_85 rfl (by decide) rfl rfl dX9_weighed_55 ?_
              refine lv_istore (lv' := [(6, .int v_ot_7), (0, .ref a0), (1, .int b1), (2, .int b2), (3, .int b3), (4, .int b4), (5, .int b5)]) hx hb dX9_weighed_58 hl (by decide) rfl (fun ls hl => ?_)
              refine lv_aload_n hx hb dX9_weighed_60 rfl (lv_at hl 1 rfl) ?_
              refine k_get hC hK hP iX9 8 2 wf_X9_28 rfl (by decide) rfl rfl dX9_weighed_61 ?_
              refine lv_iload_n hx hb dX9_weighed_64 rfl (lv_at hl 2 rfl) ?_
              refine lv_iload_n hx hb dX9_weighed_65 rfl (lv_at hl 3 rfl) ?_
              refine lv_iload_n hx hb dX9_weighed_66 rfl (lv_at hl 4 rfl) ?_
              refine lv_iload hx hb dX9_weighed_67 (lv_at hl 5 rfl) ?_
              refine lv_iload hx hb dX9_weighed_69 (lv_at hl 6 rfl) ?_
              refine k_cv (wr := [(a0, .inr (9, [.ref a1, .ref a2, .ref a3, .int v_x_3, .int v_x_4, .ref a4, .ref a5, .ref a6, .ref a7])), (a1, .inr (7, [.int v_V_0, .int v_V_1, .int v_V_2, .ref a8, .ref a9, .int v_V_5, .ref a10, .ref a11, .ref a12, .ref a13, .ref a14, .ref a15, .ref a16, .ref a17, .ref a18]))]) (k_rV hC hN hZ hS hA hK hP hD (c6_X8_put l G cI cJ cB cZ a3 a19 a20 a21 a22 a23 a24 a25 b1 b2 b3 b4 b5 v_ot_7 g_ot_left g_ot_right g_ot_year g_ot_trader g_ot_how g_ot_told g_ot_untold hv_6 hv_7) [0, 1, 2, 3, 4, 5, 6, 7] rfl (by decide +kernel) mi_X8_put in_X8_put se_X8_put wm_X9_110 8 0 rfl rfl rfl hl.1 rfl rfl (Nat.le_of_ble_eq_true rfl) ⟨(Nat.le_of_ble_eq_true rfl), (Nat.le_of_ble_eq_true rfl)⟩ dX9_weighed_71 ⟨(Nat.le_of_ble_eq_true rfl), (Nat.le_of_ble_eq_true rfl)⟩) hP hD hS hA [0, 1, 2, 3, 4, 5, 6, 7] [8, 9] rfl rfl (by decide +kernel) (by decide +kernel) (fun u14 H locs hp hP hD hS => ?_)
              obtain ⟨h15, f16, f17, f18, f19, f20, f21, f22⟩ := u14
              have hp : (1 ≤ h15.toInt ∧ h15.toInt ≤ 30) := hp
              have hP : va_P G cl [(a0, .inr (9, [.ref a1, .ref a2, .ref a3, .int v_x_3, .int v_x_4, .ref a4, .ref a5, .ref a6, .ref a7])), (a1, .inr (7, [.int v_V_0, .int v_V_1, .int v_V_2, .ref a8, .ref a9, .int v_V_5, .ref a10, .ref a11, .ref a12, .ref a13, .ref a14, .ref a15, .ref a16, .ref a17, .ref a18])), (a3, .inr (8, [.ref a19, .ref a20, .ref a21, .ref a22, .ref a23, .ref a24, .ref a25, .int h15])), (a19, .inl (cI, 30, .inl f16)), (a20, .inl (cI, 30, .inl f17)), (a21, .inl (cI, 30, .inl f18)), (a22, .inl (cI, 30, .inl f19)), (a23, .inl (cI, 30, .inl f20)), (a24, .inl (cI, 30, .inl f21)), (a25, .inl (cI, 30, .inl f22))] H := hP
              have hD : va_D A [(a0, .inr (9, [.ref a1, .ref a2, .ref a3, .int v_x_3, .int v_x_4, .ref a4, .ref a5, .ref a6, .ref a7])), (a1, .inr (7, [.int v_V_0, .int v_V_1, .int v_V_2, .ref a8, .ref a9, .int v_V_5, .ref a10, .ref a11, .ref a12, .ref a13, .ref a14, .ref a15, .ref a16, .ref a17, .ref a18])), (a3, .inr (8, [.ref a19, .ref a20, .ref a21, .ref a22, .ref a23, .ref a24, .ref a25, .int h15])), (a19, .inl (cI, 30, .inl f16)), (a20, .inl (cI, 30, .inl f17)), (a21, .inl (cI, 30, .inl f18)), (a22, .inl (cI, 30, .inl f19)), (a23, .inl (cI, 30, .inl f20)), (a24, .inl (cI, 30, .inl f21)), (a25, .inl (cI, 30, .inl f22))] := hD
              have hq14 := hp
              refine lv_aload_n hx hb dX9_weighed_74 rfl (lv_at hl 1 rfl) ?_
              refine k_get hC hK hP iX9 0 2 wf_X9_28 rfl (by decide) rfl rfl dX9_weighed_75 ?_
              refine lv_iload hx hb dX9_weighed_78 (lv_at hl 0 rfl) ?_
              refine lv_aload_n hx hb dX9_weighed_80 rfl (lv_at hl 1 rfl) ?_
              refine k_get hC hK hP iX9 0 3 wf_X9_32 rfl (by decide) rfl rfl dX9_weighed_81 ?_
              refine k_cv (wr := [(a0, .inr (9, [.ref a1, .ref a2, .ref a3, .int v_x_3, .int v_x_4, .ref a4, .ref a5, .ref a6, .ref a7])), (a1, .inr (7, [.int v_V_0, .int v_V_1, .int v_V_2, .ref a8, .ref a9, .int v_V_5, .ref a10, .ref a11, .ref a12, .ref a13, .ref a14, .ref a15, .ref a16, .ref a17, .ref a18])), (a19, .inl (cI, 30, .inl f16)), (a20, .inl (cI, 30, .inl f17)), (a21, .inl (cI, 30, .inl f18)), (a22, .inl (cI, 30, .inl f19)), (a23, .inl (cI, 30, .inl f20)), (a25, .inl (cI, 30, .inl f22))]) (k_rV hC hN hZ hS hA hK hP hD (c9_X8_setTold l G cI cJ cB cZ a3 a19 a20 a21 a22 a23 a24 a25 v_ot_7 v_x_3 h15 f21 (by omega) (by omega)) [2, 8] rfl (by decide +kernel) mi_X8_setTold in_X8_setTold se_X8_setTold wm_X9_114 8 2 rfl rfl rfl hl.1 rfl rfl (Nat.le_of_ble_eq_true rfl) ⟨(Nat.le_of_ble_eq_true rfl), (Nat.le_of_ble_eq_true rfl)⟩ dX9_weighed_84 ⟨(Nat.le_of_ble_eq_true rfl), (Nat.le_of_ble_eq_true rfl)⟩) hP hD hS hA [2, 8] [0, 1, 3, 4, 5, 6, 7, 9] rfl rfl (by decide +kernel) (by decide +kernel) (fun u23 H locs hp hP hD hS => ?_)
              obtain ⟨f24, ef24⟩ : ∃ q, q = u23 := ⟨_, rfl⟩
              subst ef24
              have hp : (True) := hp
              have hP : va_P G cl [(a0, .inr (9, [.ref a1, .ref a2, .ref a3, .int v_x_3, .int v_x_4, .ref a4, .ref a5, .ref a6, .ref a7])), (a1, .inr (7, [.int v_V_0, .int v_V_1, .int v_V_2, .ref a8, .ref a9, .int v_V_5, .ref a10, .ref a11, .ref a12, .ref a13, .ref a14, .ref a15, .ref a16, .ref a17, .ref a18])), (a19, .inl (cI, 30, .inl f16)), (a20, .inl (cI, 30, .inl f17)), (a21, .inl (cI, 30, .inl f18)), (a22, .inl (cI, 30, .inl f19)), (a23, .inl (cI, 30, .inl f20)), (a25, .inl (cI, 30, .inl f22)), (a3, .inr (8, [.ref a19, .ref a20, .ref a21, .ref a22, .ref a23, .ref a24, .ref a25, .int h15])), (a24, .inl (cI, 30, .inl f24))] H := hP
              have hD : va_D A [(a0, .inr (9, [.ref a1, .ref a2, .ref a3, .int v_x_3, .int v_x_4, .ref a4, .ref a5, .ref a6, .ref a7])), (a1, .inr (7, [.int v_V_0, .int v_V_1, .int v_V_2, .ref a8, .ref a9, .int v_V_5, .ref a10, .ref a11, .ref a12, .ref a13, .ref a14, .ref a15, .ref a16, .ref a17, .ref a18])), (a19, .inl (cI, 30, .inl f16)), (a20, .inl (cI, 30, .inl f17)), (a21, .inl (cI, 30, .inl f18)), (a22, .inl (cI, 30, .inl f19)), (a23, .inl (cI, 30, .inl f20)), (a25, .inl (cI, 30, .inl f22)), (a3, .inr (8, [.ref a19, .ref a20, .ref a21, .ref a22, .ref a23, .ref a24, .ref a25, .int h15])), (a24, .inl (cI, 30, .inl f24))] := hD
              have hq23 := hp
              refine lv_iload hx hb dX9_weighed_87 (lv_at hl 0 rfl) ?_
              rw [← hQm]
              exact k_iret hC hr hlk hK hP hD hS (h15, f16, f17, f18, f19, f20, f24, f22) [0, 1, 8, 2, 3, 4, 5, 6, 9, 7] rfl (by decide +kernel) (show (-1) ≤ v_ot_7.toInt ∧ v_ot_7.toInt ≤ 29 ∧ 0 ≤ h15.toInt ∧ h15.toInt ≤ 30 from by omega) (Nat.le_of_ble_eq_true rfl) (Nat.le_of_ble_eq_true rfl) dX9_weighed_89
            · have dc13 : 30 ≤ v_ot_7.toInt := fa_nlt c13
              refine lv_iconst (v := (-1)) hx hb dX9_weighed_49 (by decide) ?_
              have l_l25 : ((-1) : Int32).toInt = (-1) := rfl
              rw [← hQm]
              exact k_iret hC hr hlk hK hP hD hS (v_ot_7, g_ot_left, g_ot_right, g_ot_year, g_ot_trader, g_ot_how, g_ot_told, g_ot_untold) [8, 9, 0, 1, 2, 3, 4, 5, 6, 7] rfl (by decide +kernel) (show (-1) ≤ ((-1) : Int32).toInt ∧ ((-1) : Int32).toInt ≤ 29 ∧ 0 ≤ v_ot_7.toInt ∧ v_ot_7.toInt ≤ 30 from by omega) (Nat.le_of_ble_eq_true rfl) (Nat.le_of_ble_eq_true rfl) dX9_weighed_50
      · have dc8 : r7.toInt = 0 := (fa_eq _ _).mp c8
        refine lv_iconst (v := (-1)) hx hb dX9_weighed_24 (by decide) ?_
        have l_l26 : ((-1) : Int32).toInt = (-1) := rfl
        rw [← hQm]
        exact k_iret hC hr hlk hK hP hD hS (v_ot_7, g_ot_left, g_ot_right, g_ot_year, g_ot_trader, g_ot_how, g_ot_told, g_ot_untold) [8, 9, 0, 1, 2, 3, 4, 5, 6, 7] rfl (by decide +kernel) (show (-1) ≤ ((-1) : Int32).toInt ∧ ((-1) : Int32).toInt ≤ 29 ∧ 0 ≤ v_ot_7.toInt ∧ v_ot_7.toInt ≤ 30 from by omega) (Nat.le_of_ble_eq_true rfl) (Nat.le_of_ble_eq_true rfl) dX9_weighed_25
theorem dX9_untell_0 : decode cX9_untell 0 = .ok (.aload_n 0, 1) := by decide +kernel
theorem dX9_untell_1 : decode cX9_untell 1 = .ok (.getfield 28, 3) := by decide +kernel
theorem dX9_untell_4 : decode cX9_untell 4 = .ok (.iload_n 1, 1) := by decide +kernel
theorem dX9_untell_5 : decode cX9_untell 5 = .ok (.aload_n 0, 1) := by decide +kernel
theorem dX9_untell_6 : decode cX9_untell 6 = .ok (.getfield 32, 3) := by decide +kernel
theorem dX9_untell_9 : decode cX9_untell 9 = .ok (.invokevirtual 118, 3) := by decide +kernel
set_option maxRecDepth 100000 in
theorem wm_X9_118 : Cond.methodLink RX9 118 yX8_setUntold ∈ gw := gm (List.mem_of_getElem? (i := 765) (by decide +kernel)) rfl
set_option maxRecDepth 100000 in
theorem mi_X8_setUntold : MI yX8_setUntold cX8_setUntold 3 (some .boolean) 2 := ⟨gm (List.mem_of_getElem? (i := 768) rfl) rfl, gm (List.mem_of_getElem? (i := 114) (by decide +kernel)) rfl, by decide, by decide, by decide +kernel⟩
set_option maxRecDepth 100000 in
theorem in_X8_setUntold : Cond.instanceMethod yX8_setUntold ∈ gw := gm (List.mem_of_getElem? (i := 766) (by decide +kernel)) rfl
set_option maxRecDepth 100000 in
theorem se_X8_setUntold : Cond.selects yX8_setUntold.cls yX8_setUntold yX8_setUntold ∈ gw := gm (List.mem_of_getElem? (i := 767) (by decide +kernel)) rfl
theorem dX9_untell_12 : decode cX9_untell 12 = .ok (.ireturn, 1) := by decide +kernel
set_option maxHeartbeats 4000000 in
set_option maxRecDepth 100000 in
theorem c122_X9_untell (l : Launch) (G : va_G) (cI cJ cB cZ : ClassId) (a0 a1 a2 a3 a4 a5 a6 a7 a8 a9 a10 a11 a12 a13 a14 : Nat) (b1 : Int32) (v_x_3 : Int32) (v_x_4 : Int32) (v_ot_7 : Int32) (g_ot_untold : Nat → Int32) (hv_0 : 0 ≤ v_ot_7.toInt) (hv_1 : v_ot_7.toInt ≤ 30) : Con l G (TY cI cJ cB cZ) yX9_untell cX9_untell 2 (some .boolean) ({ frames := 1, cells := 0, slots := 0, locals := 22 } : Room) [.ref a0, .int b1] [(a0, .inr (9, [.ref a1, .ref a2, .ref a3, .int v_x_3, .int v_x_4, .ref a4, .ref a5, .ref a6, .ref a7])), (a3, .inr (8, [.ref a8, .ref a9, .ref a10, .ref a11, .ref a12, .ref a13, .ref a14, .int v_ot_7])), (a14, .inl (cI, 30, .inl g_ot_untold))] (QI G (TY cI cJ cB cZ) (fun (r : Int32) (u : (Nat → Int32)) => (0 ≤ r.toInt ∧ r.toInt ≤ 1)) (fun u : (Nat → Int32) => [(a0, .inr (9, [.ref a1, .ref a2, .ref a3, .int v_x_3, .int v_x_4, .ref a4, .ref a5, .ref a6, .ref a7])), (a3, .inr (8, [.ref a8, .ref a9, .ref a10, .ref a11, .ref a12, .ref a13, .ref a14, .int v_ot_7])), (a14, .inl (cI, 30, .inl u))])) := by
  refine k_met (by decide) (Nat.le_of_ble_eq_true rfl) ?_
  intro p e s m below meth c A ls hC hr hlk hnm hN hZ hK hA hP hD hS hl
  have hl : lv_has ls 2 [(0, .ref a0), (1, .int b1)] := hl
  generalize hQm : MQ below _ _ s _ _ A = Qm
  generalize (List.toArray _ : Array Value) = args at hC hQm ⊢
  obtain ⟨hx, hb, hml, hown, hts⟩ := id hC
  obtain ⟨H, hH⟩ : ∃ q, q = s.heap := ⟨_, rfl⟩
  obtain ⟨locs, hlo⟩ : ∃ q : List Loc, q = [] := ⟨_, rfl⟩
  have hP : va_P G cl [(a0, .inr (9, [.ref a1, .ref a2, .ref a3, .int v_x_3, .int v_x_4, .ref a4, .ref a5, .ref a6, .ref a7])), (a3, .inr (8, [.ref a8, .ref a9, .ref a10, .ref a11, .ref a12, .ref a13, .ref a14, .int v_ot_7])), (a14, .inl (cI, 30, .inl g_ot_untold))] H := by rw [hH]; exact hP
  have hS : va_S A s.heap H locs := by rw [hH, hlo]; exact hS
  rw [← hlo]
  rw [← hH]
  refine lv_aload_n hx hb dX9_untell_0 rfl (lv_at hl 0 rfl) ?_
  refine k_get hC hK hP iX9 0 2 wf_X9_28 rfl (by decide) rfl rfl dX9_untell_1 ?_
  refine lv_iload_n hx hb dX9_untell_4 rfl (lv_at hl 1 rfl) ?_
  refine lv_aload_n hx hb dX9_untell_5 rfl (lv_at hl 0 rfl) ?_
  refine k_get hC hK hP iX9 0 3 wf_X9_32 rfl (by decide) rfl rfl dX9_untell_6 ?_
  refine k_ci (wr := [(a0, .inr (9, [.ref a1, .ref a2, .ref a3, .int v_x_3, .int v_x_4, .ref a4, .ref a5, .ref a6, .ref a7]))]) (k_rV hC hN hZ hS hA hK hP hD (c10_X8_setUntold l G cI cJ cB cZ a3 a8 a9 a10 a11 a12 a13 a14 b1 v_x_3 v_ot_7 g_ot_untold hv_0 hv_1) [1, 2] rfl (by decide +kernel) mi_X8_setUntold in_X8_setUntold se_X8_setUntold wm_X9_118 8 1 rfl rfl rfl hl.1 rfl rfl (Nat.le_of_ble_eq_true rfl) ⟨(Nat.le_of_ble_eq_true rfl), (Nat.le_of_ble_eq_true rfl)⟩ dX9_untell_9 ⟨(Nat.le_of_ble_eq_true rfl), (Nat.le_of_ble_eq_true rfl)⟩) hP hD hS hA [1, 2] [0] rfl rfl (by decide +kernel) (by decide +kernel) (fun r1 u1 H locs hp hP hD hS => ?_)
  obtain ⟨f2, ef2⟩ : ∃ q, q = u1 := ⟨_, rfl⟩
  subst ef2
  have hp : (0 ≤ r1.toInt ∧ r1.toInt ≤ 1) := hp
  have hP : va_P G cl [(a0, .inr (9, [.ref a1, .ref a2, .ref a3, .int v_x_3, .int v_x_4, .ref a4, .ref a5, .ref a6, .ref a7])), (a3, .inr (8, [.ref a8, .ref a9, .ref a10, .ref a11, .ref a12, .ref a13, .ref a14, .int v_ot_7])), (a14, .inl (cI, 30, .inl f2))] H := hP
  have hD : va_D A [(a0, .inr (9, [.ref a1, .ref a2, .ref a3, .int v_x_3, .int v_x_4, .ref a4, .ref a5, .ref a6, .ref a7])), (a3, .inr (8, [.ref a8, .ref a9, .ref a10, .ref a11, .ref a12, .ref a13, .ref a14, .int v_ot_7])), (a14, .inl (cI, 30, .inl f2))] := hD
  have hq1 := hp
  rw [← hQm]
  exact k_zret hC hr hlk hK hP hD hS f2 [0, 1, 2] rfl (by decide +kernel) (nar_bool (by omega) (by omega)) (show 0 ≤ r1.toInt ∧ r1.toInt ≤ 1 from by omega) (Nat.le_of_ble_eq_true rfl) (Nat.le_of_ble_eq_true rfl) dX9_untell_12
theorem dX9_later_0 : decode cX9_later 0 = .ok (.iload_n 1, 1) := by decide +kernel
theorem dX9_later_1 : decode cX9_later 1 = .ok (.ifCond .lt 21, 3) := by decide +kernel
theorem dX9_later_22 : decode cX9_later 22 = .ok (.iconst (-1), 1) := by decide +kernel
theorem dX9_later_23 : decode cX9_later 23 = .ok (.ireturn, 1) := by decide +kernel
theorem dX9_later_4 : decode cX9_later 4 = .ok (.iload_n 1, 1) := by decide +kernel
theorem dX9_later_5 : decode cX9_later 5 = .ok (.sipush 1000, 3) := by decide +kernel
theorem dX9_later_8 : decode cX9_later 8 = .ok (.if_icmp .gt 14, 3) := by decide +kernel
theorem dX9_later_11 : decode cX9_later 11 = .ok (.aload_n 0, 1) := by decide +kernel
theorem dX9_later_12 : decode cX9_later 12 = .ok (.getfield 32, 3) := by decide +kernel
theorem dX9_later_15 : decode cX9_later 15 = .ok (.iload_n 1, 1) := by decide +kernel
theorem dX9_later_16 : decode cX9_later 16 = .ok (.iadd, 1) := by decide +kernel
theorem dX9_later_17 : decode cX9_later 17 = .ok (.ldc 121, 2) := by decide +kernel
set_option maxRecDepth 100000 in
theorem kc_X9_121 : Cond.constant RX9 121 100000 ∈ gw := gm (List.mem_of_getElem? (i := 773) (by decide +kernel)) rfl
theorem dX9_later_19 : decode cX9_later 19 = .ok (.if_icmp .le 5, 3) := by decide +kernel
theorem dX9_later_24 : decode cX9_later 24 = .ok (.aload_n 0, 1) := by decide +kernel
theorem dX9_later_25 : decode cX9_later 25 = .ok (.dup, 1) := by decide +kernel
theorem dX9_later_26 : decode cX9_later 26 = .ok (.getfield 32, 3) := by decide +kernel
theorem dX9_later_29 : decode cX9_later 29 = .ok (.iload_n 1, 1) := by decide +kernel
theorem dX9_later_30 : decode cX9_later 30 = .ok (.iadd, 1) := by decide +kernel
theorem dX9_later_31 : decode cX9_later 31 = .ok (.putfield 32, 3) := by decide +kernel
theorem dX9_later_34 : decode cX9_later 34 = .ok (.aload_n 0, 1) := by decide +kernel
theorem dX9_later_35 : decode cX9_later 35 = .ok (.getfield 32, 3) := by decide +kernel
theorem dX9_later_38 : decode cX9_later 38 = .ok (.ireturn, 1) := by decide +kernel
set_option maxHeartbeats 4000000 in
set_option maxRecDepth 100000 in
theorem c123_X9_later (l : Launch) (G : va_G) (cI cJ cB cZ : ClassId) (a0 a1 a2 a3 a4 a5 a6 a7 : Nat) (b1 : Int32) (v_x_3 : Int32) (v_x_4 : Int32) : Con l G (TY cI cJ cB cZ) yX9_later cX9_later 2 (some .int) ({ frames := 0, cells := 0, slots := 0, locals := 0 } : Room) [.ref a0, .int b1] [(a0, .inr (9, [.ref a1, .ref a2, .ref a3, .int v_x_3, .int v_x_4, .ref a4, .ref a5, .ref a6, .ref a7]))] (QI G (TY cI cJ cB cZ) (fun (r : Int32) (u : Int32) => (True)) (fun u : Int32 => [(a0, .inr (9, [.ref a1, .ref a2, .ref a3, .int u, .int v_x_4, .ref a4, .ref a5, .ref a6, .ref a7]))])) := by
  refine k_met (by decide) (Nat.le_of_ble_eq_true rfl) ?_
  intro p e s m below meth c A ls hC hr hlk hnm hN hZ hK hA hP hD hS hl
  have hl : lv_has ls 2 [(0, .ref a0), (1, .int b1)] := hl
  generalize hQm : MQ below _ _ s _ _ A = Qm
  generalize (List.toArray _ : Array Value) = args at hC hQm ⊢
  obtain ⟨hx, hb, hml, hown, hts⟩ := id hC
  obtain ⟨H, hH⟩ : ∃ q, q = s.heap := ⟨_, rfl⟩
  obtain ⟨locs, hlo⟩ : ∃ q : List Loc, q = [] := ⟨_, rfl⟩
  have hP : va_P G cl [(a0, .inr (9, [.ref a1, .ref a2, .ref a3, .int v_x_3, .int v_x_4, .ref a4, .ref a5, .ref a6, .ref a7]))] H := by rw [hH]; exact hP
  have hS : va_S A s.heap H locs := by rw [hH, hlo]; exact hS
  rw [← hlo]
  rw [← hH]
  refine lv_iload_n hx hb dX9_later_0 rfl (lv_at hl 1 rfl) ?_
  refine lv_if_lt (tgt := 22) hx hb dX9_later_1 (by decide) (fun c1 => ?_) (fun c1 => ?_)
  · have dc1 : b1.toInt < 0 := (fa_lt _ _).mp c1; have lbc1_0 := i_lo b1; have ubc1_0 := i_hi b1
    refine lv_iconst (v := (-1)) hx hb dX9_later_22 (by decide) ?_
    have l_l2 : ((-1) : Int32).toInt = (-1) := rfl
    rw [← hQm]
    exact k_iret hC hr hlk hK hP hD hS v_x_3 [0] rfl (by decide +kernel) trivial (Nat.le_of_ble_eq_true rfl) (Nat.le_of_ble_eq_true rfl) dX9_later_23
  · have dc1 : 0 ≤ b1.toInt := fa_nlt c1; have lbc1_0 := i_lo b1; have ubc1_0 := i_hi b1
    refine lv_iload_n hx hb dX9_later_4 rfl (lv_at hl 1 rfl) ?_
    refine lv_sipush (v := 1000) hx hb dX9_later_5 (by decide) ?_
    refine lv_icmp_gt (tgt := 22) hx hb dX9_later_8 (by decide) (fun c3 => ?_) (fun c3 => ?_)
    · have dc3 : 1000 < b1.toInt := (fa_lt _ _).mp c3; have ubc3_1 := i_hi b1
      refine lv_iconst (v := (-1)) hx hb dX9_later_22 (by decide) ?_
      have l_l4 : ((-1) : Int32).toInt = (-1) := rfl
      rw [← hQm]
      exact k_iret hC hr hlk hK hP hD hS v_x_3 [0] rfl (by decide +kernel) trivial (Nat.le_of_ble_eq_true rfl) (Nat.le_of_ble_eq_true rfl) dX9_later_23
    · have dc3 : b1.toInt ≤ 1000 := fa_nlt c3; have ubc3_1 := i_hi b1
      refine lv_aload_n hx hb dX9_later_11 rfl (lv_at hl 0 rfl) ?_
      refine k_get hC hK hP iX9 0 3 wf_X9_32 rfl (by decide) rfl rfl dX9_later_12 ?_
      refine lv_iload_n hx hb dX9_later_15 rfl (lv_at hl 1 rfl) ?_
      refine lv_iadd hx hb dX9_later_16 ?_
      refine lv_topi (fun z5 _ => ?_)
      refine lv_ldc (v := 100000) hx hb hown (hts _ kc_X9_121) dX9_later_17 ?_
      refine lv_icmp_le (tgt := 24) hx hb dX9_later_19 (by decide) (fun c6 => ?_) (fun c6 => ?_)
      · have dc6 : z5.toInt ≤ 100000 := (fa_le _ _).mp c6; have lbc6_0 := i_lo z5; have ubc6_0 := i_hi z5
        refine lv_aload_n hx hb dX9_later_24 rfl (lv_at hl 0 rfl) ?_
        refine lv_dup hx hb dX9_later_25 rfl ?_
        refine k_get hC hK hP iX9 0 3 wf_X9_32 rfl (by decide) rfl rfl dX9_later_26 ?_
        refine lv_iload_n hx hb dX9_later_29 rfl (lv_at hl 1 rfl) ?_
        refine lv_iadd hx hb dX9_later_30 ?_
        refine lv_topi (fun z7 _ => ?_)
        refine k_put hC hK hP hD hS iX9 tyX9_ok nmX9 0 3 wf_X9_32 rfl (by decide) rfl rfl rfl rfl (Nat.le_of_ble_eq_true rfl) dX9_later_31 (fun H locs hP hD hS => ?_)
        have hP : va_P G cl [(a0, .inr (9, [.ref a1, .ref a2, .ref a3, .int z7, .int v_x_4, .ref a4, .ref a5, .ref a6, .ref a7]))] H := hP
        have hD : va_D A [(a0, .inr (9, [.ref a1, .ref a2, .ref a3, .int z7, .int v_x_4, .ref a4, .ref a5, .ref a6, .ref a7]))] := hD
        refine lv_aload_n hx hb dX9_later_34 rfl (lv_at hl 0 rfl) ?_
        refine k_get hC hK hP iX9 0 3 wf_X9_32 rfl (by decide) rfl rfl dX9_later_35 ?_
        rw [← hQm]
        exact k_iret hC hr hlk hK hP hD hS z7 [0] rfl (by decide +kernel) trivial (Nat.le_of_ble_eq_true rfl) (Nat.le_of_ble_eq_true rfl) dX9_later_38
      · have dc6 : 100000 < z5.toInt := fa_nle c6; have lbc6_0 := i_lo z5; have ubc6_0 := i_hi z5
        refine lv_iconst (v := (-1)) hx hb dX9_later_22 (by decide) ?_
        have l_l8 : ((-1) : Int32).toInt = (-1) := rfl
        rw [← hQm]
        exact k_iret hC hr hlk hK hP hD hS v_x_3 [0] rfl (by decide +kernel) trivial (Nat.le_of_ble_eq_true rfl) (Nat.le_of_ble_eq_true rfl) dX9_later_23
theorem dX9_isDoubted_0 : decode cX9_isDoubted 0 = .ok (.aload_n 0, 1) := by decide +kernel
theorem dX9_isDoubted_1 : decode cX9_isDoubted 1 = .ok (.getfield 36, 3) := by decide +kernel
set_option maxRecDepth 100000 in
theorem wf_X9_36 : Cond.fieldLink RX9 36 "StoneTrust" "doubted" "I" ∈ gw := gm (List.mem_of_getElem? (i := 543) (by decide +kernel)) rfl
theorem dX9_isDoubted_4 : decode cX9_isDoubted 4 = .ok (.iload_n 1, 1) := by decide +kernel
theorem dX9_isDoubted_5 : decode cX9_isDoubted 5 = .ok (.ishr, 1) := by decide +kernel
theorem dX9_isDoubted_6 : decode cX9_isDoubted 6 = .ok (.iconst 1, 1) := by decide +kernel
theorem dX9_isDoubted_7 : decode cX9_isDoubted 7 = .ok (.iand, 1) := by decide +kernel
theorem dX9_isDoubted_8 : decode cX9_isDoubted 8 = .ok (.ifCond .eq 7, 3) := by decide +kernel
theorem dX9_isDoubted_15 : decode cX9_isDoubted 15 = .ok (.iconst 0, 1) := by decide +kernel
theorem dX9_isDoubted_16 : decode cX9_isDoubted 16 = .ok (.ireturn, 1) := by decide +kernel
theorem dX9_isDoubted_11 : decode cX9_isDoubted 11 = .ok (.iconst 1, 1) := by decide +kernel
theorem dX9_isDoubted_12 : decode cX9_isDoubted 12 = .ok (.goto 4, 3) := by decide +kernel
set_option maxHeartbeats 4000000 in
set_option maxRecDepth 100000 in
theorem c124_X9_isDoubted (l : Launch) (G : va_G) (cI cJ cB cZ : ClassId) (a0 a1 a2 a3 a4 a5 a6 a7 : Nat) (b1 : Int32) (v_x_3 : Int32) (v_x_4 : Int32) : Con l G (TY cI cJ cB cZ) yX9_isDoubted cX9_isDoubted 2 (some .boolean) ({ frames := 0, cells := 0, slots := 0, locals := 0 } : Room) [.ref a0, .int b1] [(a0, .inr (9, [.ref a1, .ref a2, .ref a3, .int v_x_3, .int v_x_4, .ref a4, .ref a5, .ref a6, .ref a7]))] (QI G (TY cI cJ cB cZ) (fun (r : Int32) (u : Unit) => (0 ≤ r.toInt ∧ r.toInt ≤ 1)) (fun u : Unit => [(a0, .inr (9, [.ref a1, .ref a2, .ref a3, .int v_x_3, .int v_x_4, .ref a4, .ref a5, .ref a6, .ref a7]))])) := by
  refine k_met (by decide) (Nat.le_of_ble_eq_true rfl) ?_
  intro p e s m below meth c A ls hC hr hlk hnm hN hZ hK hA hP hD hS hl
  have hl : lv_has ls 2 [(0, .ref a0), (1, .int b1)] := hl
  generalize hQm : MQ below _ _ s _ _ A = Qm
  generalize (List.toArray _ : Array Value) = args at hC hQm ⊢
  obtain ⟨hx, hb, hml, hown, hts⟩ := id hC
  obtain ⟨H, hH⟩ : ∃ q, q = s.heap := ⟨_, rfl⟩
  obtain ⟨locs, hlo⟩ : ∃ q : List Loc, q = [] := ⟨_, rfl⟩
  have hP : va_P G cl [(a0, .inr (9, [.ref a1, .ref a2, .ref a3, .int v_x_3, .int v_x_4, .ref a4, .ref a5, .ref a6, .ref a7]))] H := by rw [hH]; exact hP
  have hS : va_S A s.heap H locs := by rw [hH, hlo]; exact hS
  rw [← hlo]
  rw [← hH]
  refine lv_aload_n hx hb dX9_isDoubted_0 rfl (lv_at hl 0 rfl) ?_
  refine k_get hC hK hP iX9 0 4 wf_X9_36 rfl (by decide) rfl rfl dX9_isDoubted_1 ?_
  refine lv_iload_n hx hb dX9_isDoubted_4 rfl (lv_at hl 1 rfl) ?_
  refine lv_ishr hx hb dX9_isDoubted_5 ?_
  refine lv_topi (fun z1 _ => ?_)
  refine lv_iconst (v := 1) hx hb dX9_isDoubted_6 (by decide) ?_
  refine lv_iand hx hb dX9_isDoubted_7 ?_
  refine t_i (fun q => 0 ≤ q.toInt ∧ q.toInt ≤ 1) (by have h_ := and_b (x := z1) (y := 1) (by decide); exact h_) (fun z2 tz2 => ?_)
  refine lv_if_eq (tgt := 15) hx hb dX9_isDoubted_8 (by decide) (fun c3 => ?_) (fun c3 => ?_)
  · have dc3 : z2.toInt = 0 := (fa_eq _ _).mp c3
    refine lv_iconst (v := 0) hx hb dX9_isDoubted_15 (by decide) ?_
    have l_l4 : (0 : Int32).toInt = 0 := rfl
    rw [← hQm]
    exact k_zret hC hr hlk hK hP hD hS () [0] rfl (by decide +kernel) rfl (show 0 ≤ (0 : Int32).toInt ∧ (0 : Int32).toInt ≤ 1 from by omega) (Nat.le_of_ble_eq_true rfl) (Nat.le_of_ble_eq_true rfl) dX9_isDoubted_16
  · have dc3 : z2.toInt ≠ 0 := fa_ne c3
    refine lv_iconst (v := 1) hx hb dX9_isDoubted_11 (by decide) ?_
    refine lv_goto (tgt := 16) hx hb dX9_isDoubted_12 (by decide) ?_
    have l_l5 : (1 : Int32).toInt = 1 := rfl
    rw [← hQm]
    exact k_zret hC hr hlk hK hP hD hS () [0] rfl (by decide +kernel) rfl (show 0 ≤ (1 : Int32).toInt ∧ (1 : Int32).toInt ≤ 1 from by omega) (Nat.le_of_ble_eq_true rfl) (Nat.le_of_ble_eq_true rfl) dX9_isDoubted_16
theorem dX9_doubt_0 : decode cX9_doubt 0 = .ok (.iload_n 1, 1) := by decide +kernel
theorem dX9_doubt_1 : decode cX9_doubt 1 = .ok (.invokestatic 107, 3) := by decide +kernel
theorem dX9_doubt_4 : decode cX9_doubt 4 = .ok (.ifCond .eq 12, 3) := by decide +kernel
theorem dX9_doubt_16 : decode cX9_doubt 16 = .ok (.iconst 0, 1) := by decide +kernel
theorem dX9_doubt_17 : decode cX9_doubt 17 = .ok (.ireturn, 1) := by decide +kernel
theorem dX9_doubt_7 : decode cX9_doubt 7 = .ok (.aload_n 0, 1) := by decide +kernel
theorem dX9_doubt_8 : decode cX9_doubt 8 = .ok (.iload_n 1, 1) := by decide +kernel
theorem dX9_doubt_9 : decode cX9_doubt 9 = .ok (.invokevirtual 122, 3) := by decide +kernel
set_option maxRecDepth 100000 in
theorem wm_X9_122 : Cond.methodLink RX9 122 yX9_isDoubted ∈ gw := gm (List.mem_of_getElem? (i := 778) (by decide +kernel)) rfl
set_option maxRecDepth 100000 in
theorem mi_X9_isDoubted : MI yX9_isDoubted cX9_isDoubted 2 (some .boolean) 1 := ⟨gm (List.mem_of_getElem? (i := 781) rfl) rfl, gm (List.mem_of_getElem? (i := 112) (by decide +kernel)) rfl, by decide, by decide, by decide +kernel⟩
set_option maxRecDepth 100000 in
theorem in_X9_isDoubted : Cond.instanceMethod yX9_isDoubted ∈ gw := gm (List.mem_of_getElem? (i := 780) (by decide +kernel)) rfl
set_option maxRecDepth 100000 in
theorem se_X9_isDoubted : Cond.selects yX9_isDoubted.cls yX9_isDoubted yX9_isDoubted ∈ gw := gm (List.mem_of_getElem? (i := 21) (by decide +kernel)) rfl
theorem dX9_doubt_12 : decode cX9_doubt 12 = .ok (.iload_n 2, 1) := by decide +kernel
theorem dX9_doubt_13 : decode cX9_doubt 13 = .ok (.if_icmp .ne 5, 3) := by decide +kernel
theorem dX9_doubt_18 : decode cX9_doubt 18 = .ok (.aload_n 0, 1) := by decide +kernel
theorem dX9_doubt_19 : decode cX9_doubt 19 = .ok (.dup, 1) := by decide +kernel
theorem dX9_doubt_20 : decode cX9_doubt 20 = .ok (.getfield 36, 3) := by decide +kernel
theorem dX9_doubt_23 : decode cX9_doubt 23 = .ok (.iconst 1, 1) := by decide +kernel
theorem dX9_doubt_24 : decode cX9_doubt 24 = .ok (.iload_n 1, 1) := by decide +kernel
theorem dX9_doubt_25 : decode cX9_doubt 25 = .ok (.ishl, 1) := by decide +kernel
theorem dX9_doubt_26 : decode cX9_doubt 26 = .ok (.ixor, 1) := by decide +kernel
theorem dX9_doubt_27 : decode cX9_doubt 27 = .ok (.putfield 36, 3) := by decide +kernel
theorem dX9_doubt_30 : decode cX9_doubt 30 = .ok (.iconst 1, 1) := by decide +kernel
theorem dX9_doubt_31 : decode cX9_doubt 31 = .ok (.ireturn, 1) := by decide +kernel
set_option maxHeartbeats 4000000 in
set_option maxRecDepth 100000 in
theorem c125_X9_doubt (l : Launch) (G : va_G) (cI cJ cB cZ : ClassId) (a0 a1 a2 a3 a4 a5 a6 a7 : Nat) (b1 : Int32) (b2 : Int32) (v_x_3 : Int32) (v_x_4 : Int32) (hv_0 : 0 ≤ b2.toInt) (hv_1 : b2.toInt ≤ 1) : Con l G (TY cI cJ cB cZ) yX9_doubt cX9_doubt 3 (some .boolean) ({ frames := 1, cells := 0, slots := 0, locals := 21 } : Room) [.ref a0, .int b1, .int b2] [(a0, .inr (9, [.ref a1, .ref a2, .ref a3, .int v_x_3, .int v_x_4, .ref a4, .ref a5, .ref a6, .ref a7]))] (QI G (TY cI cJ cB cZ) (fun (r : Int32) (u : Int32) => (0 ≤ r.toInt ∧ r.toInt ≤ 1)) (fun u : Int32 => [(a0, .inr (9, [.ref a1, .ref a2, .ref a3, .int v_x_3, .int u, .ref a4, .ref a5, .ref a6, .ref a7]))])) := by
  refine k_met (by decide) (Nat.le_of_ble_eq_true rfl) ?_
  intro p e s m below meth c A ls hC hr hlk hnm hN hZ hK hA hP hD hS hl
  have hl : lv_has ls 3 [(0, .ref a0), (1, .int b1), (2, .int b2)] := hl
  generalize hQm : MQ below _ _ s _ _ A = Qm
  generalize (List.toArray _ : Array Value) = args at hC hQm ⊢
  obtain ⟨hx, hb, hml, hown, hts⟩ := id hC
  obtain ⟨H, hH⟩ : ∃ q, q = s.heap := ⟨_, rfl⟩
  obtain ⟨locs, hlo⟩ : ∃ q : List Loc, q = [] := ⟨_, rfl⟩
  have hP : va_P G cl [(a0, .inr (9, [.ref a1, .ref a2, .ref a3, .int v_x_3, .int v_x_4, .ref a4, .ref a5, .ref a6, .ref a7]))] H := by rw [hH]; exact hP
  have hS : va_S A s.heap H locs := by rw [hH, hlo]; exact hS
  rw [← hlo]
  rw [← hH]
  refine lv_iload_n hx hb dX9_doubt_0 rfl (lv_at hl 1 rfl) ?_
  refine k_ci (wr := [(a0, .inr (9, [.ref a1, .ref a2, .ref a3, .int v_x_3, .int v_x_4, .ref a4, .ref a5, .ref a6, .ref a7]))]) (k_rS hC hN hZ hS hA hK hP hD (c120_X9_isTrader l G cI cJ cB cZ b1) [] rfl (by decide +kernel) mi_X9_isTrader st_X9_isTrader wm_X9_107 hl.1 rfl rfl (Nat.le_of_ble_eq_true rfl) ⟨(Nat.le_of_ble_eq_true rfl), (Nat.le_of_ble_eq_true rfl)⟩ dX9_doubt_1 ⟨(Nat.le_of_ble_eq_true rfl), (Nat.le_of_ble_eq_true rfl)⟩) hP hD hS hA [] [0] rfl rfl (by decide +kernel) (by decide +kernel) (fun r1 u1 H locs hp hP hD hS => ?_)
  have hp : (0 ≤ r1.toInt ∧ r1.toInt ≤ 1) := hp
  have hP : va_P G cl [(a0, .inr (9, [.ref a1, .ref a2, .ref a3, .int v_x_3, .int v_x_4, .ref a4, .ref a5, .ref a6, .ref a7]))] H := hP
  have hD : va_D A [(a0, .inr (9, [.ref a1, .ref a2, .ref a3, .int v_x_3, .int v_x_4, .ref a4, .ref a5, .ref a6, .ref a7]))] := hD
  have hq1 := hp
  refine lv_if_eq (tgt := 16) hx hb dX9_doubt_4 (by decide) (fun c2 => ?_) (fun c2 => ?_)
  · have dc2 : r1.toInt = 0 := (fa_eq _ _).mp c2
    refine lv_iconst (v := 0) hx hb dX9_doubt_16 (by decide) ?_
    have l_l3 : (0 : Int32).toInt = 0 := rfl
    rw [← hQm]
    exact k_zret hC hr hlk hK hP hD hS v_x_4 [0] rfl (by decide +kernel) rfl (show 0 ≤ (0 : Int32).toInt ∧ (0 : Int32).toInt ≤ 1 from by omega) (Nat.le_of_ble_eq_true rfl) (Nat.le_of_ble_eq_true rfl) dX9_doubt_17
  · have dc2 : r1.toInt ≠ 0 := fa_ne c2
    refine lv_aload_n hx hb dX9_doubt_7 rfl (lv_at hl 0 rfl) ?_
    refine lv_iload_n hx hb dX9_doubt_8 rfl (lv_at hl 1 rfl) ?_
    refine k_ci (wr := []) (k_rV hC hN hZ hS hA hK hP hD (c124_X9_isDoubted l G cI cJ cB cZ a0 a1 a2 a3 a4 a5 a6 a7 b1 v_x_3 v_x_4) [0] rfl (by decide +kernel) mi_X9_isDoubted in_X9_isDoubted se_X9_isDoubted wm_X9_122 9 0 rfl rfl rfl hl.1 rfl rfl (Nat.le_of_ble_eq_true rfl) ⟨(Nat.le_of_ble_eq_true rfl), (Nat.le_of_ble_eq_true rfl)⟩ dX9_doubt_9 ⟨(Nat.le_of_ble_eq_true rfl), (Nat.le_of_ble_eq_true rfl)⟩) hP hD hS hA [0] [] rfl rfl (by decide +kernel) (by decide +kernel) (fun r4 u4 H locs hp hP hD hS => ?_)
    have hp : (0 ≤ r4.toInt ∧ r4.toInt ≤ 1) := hp
    have hP : va_P G cl [(a0, .inr (9, [.ref a1, .ref a2, .ref a3, .int v_x_3, .int v_x_4, .ref a4, .ref a5, .ref a6, .ref a7]))] H := hP
    have hD : va_D A [(a0, .inr (9, [.ref a1, .ref a2, .ref a3, .int v_x_3, .int v_x_4, .ref a4, .ref a5, .ref a6, .ref a7]))] := hD
    have hq4 := hp
    refine lv_iload_n hx hb dX9_doubt_12 rfl (lv_at hl 2 rfl) ?_
    refine lv_icmp_ne (tgt := 18) hx hb dX9_doubt_13 (by decide) (fun c5 => ?_) (fun c5 => ?_)
    · have dc5 : r4.toInt ≠ b2.toInt := fa_ne c5
      refine lv_aload_n hx hb dX9_doubt_18 rfl (lv_at hl 0 rfl) ?_
      refine lv_dup hx hb dX9_doubt_19 rfl ?_
      refine k_get hC hK hP iX9 0 4 wf_X9_36 rfl (by decide) rfl rfl dX9_doubt_20 ?_
      refine lv_iconst (v := 1) hx hb dX9_doubt_23 (by decide) ?_
      refine lv_iload_n hx hb dX9_doubt_24 rfl (lv_at hl 1 rfl) ?_
      refine lv_ishl hx hb dX9_doubt_25 ?_
      refine lv_topi (fun z6 _ => ?_)
      refine lv_ixor hx hb dX9_doubt_26 ?_
      refine lv_topi (fun z7 _ => ?_)
      refine k_put hC hK hP hD hS iX9 tyX9_ok nmX9 0 4 wf_X9_36 rfl (by decide) rfl rfl rfl rfl (Nat.le_of_ble_eq_true rfl) dX9_doubt_27 (fun H locs hP hD hS => ?_)
      have hP : va_P G cl [(a0, .inr (9, [.ref a1, .ref a2, .ref a3, .int v_x_3, .int z7, .ref a4, .ref a5, .ref a6, .ref a7]))] H := hP
      have hD : va_D A [(a0, .inr (9, [.ref a1, .ref a2, .ref a3, .int v_x_3, .int z7, .ref a4, .ref a5, .ref a6, .ref a7]))] := hD
      refine lv_iconst (v := 1) hx hb dX9_doubt_30 (by decide) ?_
      have l_l8 : (1 : Int32).toInt = 1 := rfl
      rw [← hQm]
      exact k_zret hC hr hlk hK hP hD hS z7 [0] rfl (by decide +kernel) rfl (show 0 ≤ (1 : Int32).toInt ∧ (1 : Int32).toInt ≤ 1 from by omega) (Nat.le_of_ble_eq_true rfl) (Nat.le_of_ble_eq_true rfl) dX9_doubt_31
    · have dc5 : r4.toInt = b2.toInt := (fa_eq _ _).mp c5
      refine lv_iconst (v := 0) hx hb dX9_doubt_16 (by decide) ?_
      have l_l9 : (0 : Int32).toInt = 0 := rfl
      rw [← hQm]
      exact k_zret hC hr hlk hK hP hD hS v_x_4 [0] rfl (by decide +kernel) rfl (show 0 ≤ (0 : Int32).toInt ∧ (0 : Int32).toInt ≤ 1 from by omega) (Nat.le_of_ble_eq_true rfl) (Nat.le_of_ble_eq_true rfl) dX9_doubt_17
theorem dX9_countingAt_0 : decode cX9_countingAt 0 = .ok (.lconst 0, 1) := by decide +kernel
theorem dX9_countingAt_1 : decode cX9_countingAt 1 = .ok (.lstore_n 2, 1) := by decide +kernel
theorem dX9_countingAt_2 : decode cX9_countingAt 2 = .ok (.aload_n 0, 1) := by decide +kernel
theorem dX9_countingAt_3 : decode cX9_countingAt 3 = .ok (.getfield 10, 3) := by decide +kernel
theorem dX9_countingAt_6 : decode cX9_countingAt 6 = .ok (.getfield 289, 3) := by decide +kernel
set_option maxRecDepth 100000 in
theorem wf_X9_289 : Cond.fieldLinkNest RX9 289 "StoneTrust$Village" "weighings" "LStoneTrust$Weighings;" "StoneTrust" ∈ nests := nm_ (List.mem_of_getElem? (i := 262) (by decide +kernel)) rfl
theorem dX9_countingAt_9 : decode cX9_countingAt 9 = .ok (.astore 4, 2) := by decide +kernel
theorem dX9_countingAt_11 : decode cX9_countingAt 11 = .ok (.iconst 0, 1) := by decide +kernel
theorem dX9_countingAt_12 : decode cX9_countingAt 12 = .ok (.istore 5, 2) := by decide +kernel
theorem dX9_countingAt_14 : decode cX9_countingAt 14 = .ok (.iload 5, 2) := by decide +kernel
theorem dX9_countingAt_16 : decode cX9_countingAt 16 = .ok (.aload 4, 2) := by decide +kernel
theorem dX9_countingAt_18 : decode cX9_countingAt 18 = .ok (.getfield 85, 3) := by decide +kernel
theorem dX9_countingAt_21 : decode cX9_countingAt 21 = .ok (.if_icmp .ge 31, 3) := by decide +kernel
theorem dX9_countingAt_52 : decode cX9_countingAt 52 = .ok (.iconst 0, 1) := by decide +kernel
theorem dX9_countingAt_53 : decode cX9_countingAt 53 = .ok (.istore 5, 2) := by decide +kernel
theorem dX9_countingAt_55 : decode cX9_countingAt 55 = .ok (.iload 5, 2) := by decide +kernel
theorem dX9_countingAt_57 : decode cX9_countingAt 57 = .ok (.aload_n 0, 1) := by decide +kernel
theorem dX9_countingAt_58 : decode cX9_countingAt 58 = .ok (.getfield 28, 3) := by decide +kernel
theorem dX9_countingAt_61 : decode cX9_countingAt 61 = .ok (.getfield 85, 3) := by decide +kernel
theorem dX9_countingAt_64 : decode cX9_countingAt 64 = .ok (.if_icmp .ge 49, 3) := by decide +kernel
theorem dX9_countingAt_113 : decode cX9_countingAt 113 = .ok (.lload_n 2, 1) := by decide +kernel
theorem dX9_countingAt_114 : decode cX9_countingAt 114 = .ok (.lreturn, 1) := by decide +kernel
theorem dX9_countingAt_67 : decode cX9_countingAt 67 = .ok (.aload_n 0, 1) := by decide +kernel
theorem dX9_countingAt_68 : decode cX9_countingAt 68 = .ok (.getfield 28, 3) := by decide +kernel
theorem dX9_countingAt_71 : decode cX9_countingAt 71 = .ok (.iload 5, 2) := by decide +kernel
theorem dX9_countingAt_73 : decode cX9_countingAt 73 = .ok (.iload_n 1, 1) := by decide +kernel
theorem dX9_countingAt_74 : decode cX9_countingAt 74 = .ok (.invokevirtual 306, 3) := by decide +kernel
set_option maxRecDepth 100000 in
theorem wm_X9_306 : Cond.methodLink RX9 306 yX8_isKnown ∈ gw := gm (List.mem_of_getElem? (i := 799) (by decide +kernel)) rfl
set_option maxRecDepth 100000 in
theorem mi_X8_isKnown : MI yX8_isKnown cX8_isKnown 3 (some .boolean) 2 := ⟨gm (List.mem_of_getElem? (i := 802) rfl) rfl, gm (List.mem_of_getElem? (i := 114) (by decide +kernel)) rfl, by decide, by decide, by decide +kernel⟩
set_option maxRecDepth 100000 in
theorem in_X8_isKnown : Cond.instanceMethod yX8_isKnown ∈ gw := gm (List.mem_of_getElem? (i := 800) (by decide +kernel)) rfl
set_option maxRecDepth 100000 in
theorem se_X8_isKnown : Cond.selects yX8_isKnown.cls yX8_isKnown yX8_isKnown ∈ gw := gm (List.mem_of_getElem? (i := 801) (by decide +kernel)) rfl
theorem dX9_countingAt_77 : decode cX9_countingAt 77 = .ok (.ifCond .eq 30, 3) := by decide +kernel
theorem dX9_countingAt_107 : decode cX9_countingAt 107 = .ok (.iinc 5 1, 3) := by decide +kernel
theorem dX9_countingAt_110 : decode cX9_countingAt 110 = .ok (.goto (-55), 3) := by decide +kernel
theorem dX9_countingAt_80 : decode cX9_countingAt 80 = .ok (.aload_n 0, 1) := by decide +kernel
theorem dX9_countingAt_81 : decode cX9_countingAt 81 = .ok (.aload_n 0, 1) := by decide +kernel
theorem dX9_countingAt_82 : decode cX9_countingAt 82 = .ok (.getfield 28, 3) := by decide +kernel
theorem dX9_countingAt_85 : decode cX9_countingAt 85 = .ok (.getfield 302, 3) := by decide +kernel
set_option maxRecDepth 100000 in
theorem wf_X9_302 : Cond.fieldLinkNest RX9 302 "StoneTrust$Weighings" "trader" "[I" "StoneTrust" ∈ nests := nm_ (List.mem_of_getElem? (i := 158) (by decide +kernel)) rfl
theorem dX9_countingAt_88 : decode cX9_countingAt 88 = .ok (.iload 5, 2) := by decide +kernel
theorem dX9_countingAt_90 : decode cX9_countingAt 90 = .ok (.iaload, 1) := by decide +kernel
theorem dX9_countingAt_91 : decode cX9_countingAt 91 = .ok (.invokevirtual 122, 3) := by decide +kernel
theorem dX9_countingAt_94 : decode cX9_countingAt 94 = .ok (.ifCond .ne 13, 3) := by decide +kernel
theorem dX9_countingAt_97 : decode cX9_countingAt 97 = .ok (.lload_n 2, 1) := by decide +kernel
theorem dX9_countingAt_98 : decode cX9_countingAt 98 = .ok (.lconst 1, 1) := by decide +kernel
theorem dX9_countingAt_99 : decode cX9_countingAt 99 = .ok (.bipush 16, 2) := by decide +kernel
theorem dX9_countingAt_101 : decode cX9_countingAt 101 = .ok (.iload 5, 2) := by decide +kernel
theorem dX9_countingAt_103 : decode cX9_countingAt 103 = .ok (.iadd, 1) := by decide +kernel
theorem dX9_countingAt_104 : decode cX9_countingAt 104 = .ok (.lshl, 1) := by decide +kernel
theorem dX9_countingAt_105 : decode cX9_countingAt 105 = .ok (.lor, 1) := by decide +kernel
theorem dX9_countingAt_106 : decode cX9_countingAt 106 = .ok (.lstore_n 2, 1) := by decide +kernel
theorem dX9_countingAt_24 : decode cX9_countingAt 24 = .ok (.aload_n 0, 1) := by decide +kernel
theorem dX9_countingAt_25 : decode cX9_countingAt 25 = .ok (.aload 4, 2) := by decide +kernel
theorem dX9_countingAt_27 : decode cX9_countingAt 27 = .ok (.getfield 302, 3) := by decide +kernel
theorem dX9_countingAt_30 : decode cX9_countingAt 30 = .ok (.iload 5, 2) := by decide +kernel
theorem dX9_countingAt_32 : decode cX9_countingAt 32 = .ok (.iaload, 1) := by decide +kernel
theorem dX9_countingAt_33 : decode cX9_countingAt 33 = .ok (.invokevirtual 122, 3) := by decide +kernel
theorem dX9_countingAt_36 : decode cX9_countingAt 36 = .ok (.ifCond .ne 10, 3) := by decide +kernel
theorem dX9_countingAt_46 : decode cX9_countingAt 46 = .ok (.iinc 5 1, 3) := by decide +kernel
theorem dX9_countingAt_49 : decode cX9_countingAt 49 = .ok (.goto (-35), 3) := by decide +kernel
theorem dX9_countingAt_39 : decode cX9_countingAt 39 = .ok (.lload_n 2, 1) := by decide +kernel
theorem dX9_countingAt_40 : decode cX9_countingAt 40 = .ok (.lconst 1, 1) := by decide +kernel
theorem dX9_countingAt_41 : decode cX9_countingAt 41 = .ok (.iload 5, 2) := by decide +kernel
theorem dX9_countingAt_43 : decode cX9_countingAt 43 = .ok (.lshl, 1) := by decide +kernel
theorem dX9_countingAt_44 : decode cX9_countingAt 44 = .ok (.lor, 1) := by decide +kernel
theorem dX9_countingAt_45 : decode cX9_countingAt 45 = .ok (.lstore_n 2, 1) := by decide +kernel
set_option maxHeartbeats 4000000 in
set_option maxRecDepth 100000 in
theorem c126_X9_countingAt (l : Launch) (G : va_G) (cI cJ cB cZ : ClassId) (a0 a1 a2 a3 a4 a5 a6 a7 a8 a9 a10 a11 a12 a13 a14 a15 a16 a17 a18 a19 a20 a21 a22 a23 a24 a25 a26 a27 a28 a29 a30 a31 a32 : Nat) (b1 : Int32) (v_x_3 : Int32) (v_x_4 : Int32) (v_V_0 : Int32) (v_V_1 : Int32) (v_V_2 : Int32) (v_V_5 : Int32) (v_Vw_7 : Int32) (v_ot_7 : Int32) (g_Vw_trader : Nat → Int32) (g_ot_told : Nat → Int32) (g_ot_untold : Nat → Int32) (g_ot_trader : Nat → Int32) (hv_0 : 0 ≤ v_V_0.toInt) (hv_1 : v_V_0.toInt ≤ 110) (hv_2 : 0 ≤ v_V_1.toInt) (hv_3 : v_V_1.toInt ≤ 110) (hv_4 : 0 ≤ v_V_5.toInt) (hv_5 : v_V_5.toInt ≤ 6) (hv_6 : 0 ≤ v_Vw_7.toInt) (hv_7 : v_Vw_7.toInt ≤ 16) (hv_8 : 0 ≤ v_ot_7.toInt) (hv_9 : v_ot_7.toInt ≤ 30) : Con l G (TY cI cJ cB cZ) yX9_countingAt cX9_countingAt 6 (some .long) ({ frames := 1, cells := 0, slots := 0, locals := 22 } : Room) [.ref a0, .int b1] [(a0, .inr (9, [.ref a1, .ref a2, .ref a3, .int v_x_3, .int v_x_4, .ref a4, .ref a5, .ref a6, .ref a7])), (a1, .inr (7, [.int v_V_0, .int v_V_1, .int v_V_2, .ref a8, .ref a9, .int v_V_5, .ref a10, .ref a11, .ref a12, .ref a13, .ref a14, .ref a15, .ref a16, .ref a17, .ref a18])), (a17, .inr (8, [.ref a19, .ref a20, .ref a21, .ref a22, .ref a23, .ref a24, .ref a25, .int v_Vw_7])), (a22, .inl (cI, 16, .inl g_Vw_trader)), (a3, .inr (8, [.ref a26, .ref a27, .ref a28, .ref a29, .ref a30, .ref a31, .ref a32, .int v_ot_7])), (a31, .inl (cI, 30, .inl g_ot_told)), (a32, .inl (cI, 30, .inl g_ot_untold)), (a29, .inl (cI, 30, .inl g_ot_trader))] (QL G (TY cI cJ cB cZ) (fun (r : Int64) (u : Unit) => (True)) (fun u : Unit => [(a0, .inr (9, [.ref a1, .ref a2, .ref a3, .int v_x_3, .int v_x_4, .ref a4, .ref a5, .ref a6, .ref a7])), (a1, .inr (7, [.int v_V_0, .int v_V_1, .int v_V_2, .ref a8, .ref a9, .int v_V_5, .ref a10, .ref a11, .ref a12, .ref a13, .ref a14, .ref a15, .ref a16, .ref a17, .ref a18])), (a17, .inr (8, [.ref a19, .ref a20, .ref a21, .ref a22, .ref a23, .ref a24, .ref a25, .int v_Vw_7])), (a22, .inl (cI, 16, .inl g_Vw_trader)), (a3, .inr (8, [.ref a26, .ref a27, .ref a28, .ref a29, .ref a30, .ref a31, .ref a32, .int v_ot_7])), (a31, .inl (cI, 30, .inl g_ot_told)), (a32, .inl (cI, 30, .inl g_ot_untold)), (a29, .inl (cI, 30, .inl g_ot_trader))])) := by
  refine k_met (by decide) (Nat.le_of_ble_eq_true rfl) ?_
  intro p e s m below meth c A ls hC hr hlk hnm hN hZ hK hA hP hD hS hl
  have hl : lv_has ls 6 [(0, .ref a0), (1, .int b1)] := hl
  generalize hQm : MQ below _ _ s _ _ A = Qm
  generalize (List.toArray _ : Array Value) = args at hC hQm ⊢
  obtain ⟨hx, hb, hml, hown, hts⟩ := id hC
  obtain ⟨H, hH⟩ : ∃ q, q = s.heap := ⟨_, rfl⟩
  obtain ⟨locs, hlo⟩ : ∃ q : List Loc, q = [] := ⟨_, rfl⟩
  have hP : va_P G cl [(a0, .inr (9, [.ref a1, .ref a2, .ref a3, .int v_x_3, .int v_x_4, .ref a4, .ref a5, .ref a6, .ref a7])), (a1, .inr (7, [.int v_V_0, .int v_V_1, .int v_V_2, .ref a8, .ref a9, .int v_V_5, .ref a10, .ref a11, .ref a12, .ref a13, .ref a14, .ref a15, .ref a16, .ref a17, .ref a18])), (a17, .inr (8, [.ref a19, .ref a20, .ref a21, .ref a22, .ref a23, .ref a24, .ref a25, .int v_Vw_7])), (a22, .inl (cI, 16, .inl g_Vw_trader)), (a3, .inr (8, [.ref a26, .ref a27, .ref a28, .ref a29, .ref a30, .ref a31, .ref a32, .int v_ot_7])), (a31, .inl (cI, 30, .inl g_ot_told)), (a32, .inl (cI, 30, .inl g_ot_untold)), (a29, .inl (cI, 30, .inl g_ot_trader))] H := by rw [hH]; exact hP
  have hS : va_S A s.heap H locs := by rw [hH, hlo]; exact hS
  rw [← hlo]
  rw [← hH]
  refine lv_lconst (v := 0) hx hb dX9_countingAt_0 (by decide) ?_
  refine lv_lstore_n (lv' := [(2, .long 0), (0, .ref a0), (1, .int b1)]) hx hb dX9_countingAt_1 rfl hl (by decide) rfl (fun ls hl => ?_)
  refine lv_aload_n hx hb dX9_countingAt_2 rfl (lv_at hl 1 rfl) ?_
  refine k_get hC hK hP iX9 0 0 wf_X9_10 rfl (by decide) rfl rfl dX9_countingAt_3 ?_
  refine k_getN hC hN hK hP iX7 1 13 wf_X9_289 rfl (by decide) rfl rfl dX9_countingAt_6 ?_
  refine lv_astore (lv' := [(4, .ref a17), (2, .long 0), (0, .ref a0), (1, .int b1)]) hx hb dX9_countingAt_9 hl (by decide) rfl (fun ls hl => ?_)
  refine lv_iconst (v := 0) hx hb dX9_countingAt_11 (by decide) ?_
  refine lv_istore (lv' := [(5, .int 0), (4, .ref a17), (2, .long 0), (0, .ref a0), (1, .int b1)]) hx hb dX9_countingAt_12 hl (by decide) rfl (fun ls hl => ?_)
  have L_14 : ∀ (n : Nat) (x1 : Int32) (y2 : Int64) (H : Heap) (locs : List Loc) (ls : Array Slot), (0 ≤ x1.toInt ∧ x1.toInt ≤ 16) → 16 - x1.toInt < (n : Int) → va_P G cl [(a0, .inr (9, [.ref a1, .ref a2, .ref a3, .int v_x_3, .int v_x_4, .ref a4, .ref a5, .ref a6, .ref a7])), (a1, .inr (7, [.int v_V_0, .int v_V_1, .int v_V_2, .ref a8, .ref a9, .int v_V_5, .ref a10, .ref a11, .ref a12, .ref a13, .ref a14, .ref a15, .ref a16, .ref a17, .ref a18])), (a17, .inr (8, [.ref a19, .ref a20, .ref a21, .ref a22, .ref a23, .ref a24, .ref a25, .int v_Vw_7])), (a22, .inl (cI, 16, .inl g_Vw_trader)), (a3, .inr (8, [.ref a26, .ref a27, .ref a28, .ref a29, .ref a30, .ref a31, .ref a32, .int v_ot_7])), (a31, .inl (cI, 30, .inl g_ot_told)), (a32, .inl (cI, 30, .inl g_ot_untold)), (a29, .inl (cI, 30, .inl g_ot_trader))] H → va_D A [(a0, .inr (9, [.ref a1, .ref a2, .ref a3, .int v_x_3, .int v_x_4, .ref a4, .ref a5, .ref a6, .ref a7])), (a1, .inr (7, [.int v_V_0, .int v_V_1, .int v_V_2, .ref a8, .ref a9, .int v_V_5, .ref a10, .ref a11, .ref a12, .ref a13, .ref a14, .ref a15, .ref a16, .ref a17, .ref a18])), (a17, .inr (8, [.ref a19, .ref a20, .ref a21, .ref a22, .ref a23, .ref a24, .ref a25, .int v_Vw_7])), (a22, .inl (cI, 16, .inl g_Vw_trader)), (a3, .inr (8, [.ref a26, .ref a27, .ref a28, .ref a29, .ref a30, .ref a31, .ref a32, .int v_ot_7])), (a31, .inl (cI, 30, .inl g_ot_told)), (a32, .inl (cI, 30, .inl g_ot_untold)), (a29, .inl (cI, 30, .inl g_ot_trader))] → va_S A s.heap H locs → lv_has ls 6 [(0, .ref a0), (1, .int b1), (2, .long y2), (4, .ref a17), (5, .int x1)] → W p l e ({ frames := 1, cells := 0, slots := 0, locals := 22 } : Room) s m args below meth c H locs 0 0 Qm (F0 m 14 ls []) := by
    intro n
    induction n with
    | zero => intro x1 y2 H locs ls hv hm; omega
    | succ n ih =>
      intro x1 y2 H locs ls hv hm hP hD hS hl
      refine lv_iload hx hb dX9_countingAt_14 (lv_at hl 4 rfl) ?_
      refine lv_aload hx hb dX9_countingAt_16 (lv_at hl 3 rfl) ?_
      refine k_getN hC hN hK hP iX8 2 7 wf_X9_85 rfl (by decide) rfl rfl dX9_countingAt_18 ?_
      refine lv_icmp_ge (tgt := 52) hx hb dX9_countingAt_21 (by decide) (fun c3 => ?_) (fun c3 => ?_)
      · have dc3 : v_Vw_7.toInt ≤ x1.toInt := (fa_le _ _).mp c3
        refine lv_iconst (v := 0) hx hb dX9_countingAt_52 (by decide) ?_
        refine lv_istore (lv' := [(5, .int 0), (0, .ref a0), (1, .int b1), (2, .long y2), (4, .ref a17)]) hx hb dX9_countingAt_53 hl (by decide) rfl (fun ls hl => ?_)
        have L_55 : ∀ (n : Nat) (x4 : Int32) (y5 : Int64) (H : Heap) (locs : List Loc) (ls : Array Slot), (0 ≤ x4.toInt ∧ x4.toInt ≤ 30) → 30 - x4.toInt < (n : Int) → va_P G cl [(a0, .inr (9, [.ref a1, .ref a2, .ref a3, .int v_x_3, .int v_x_4, .ref a4, .ref a5, .ref a6, .ref a7])), (a1, .inr (7, [.int v_V_0, .int v_V_1, .int v_V_2, .ref a8, .ref a9, .int v_V_5, .ref a10, .ref a11, .ref a12, .ref a13, .ref a14, .ref a15, .ref a16, .ref a17, .ref a18])), (a17, .inr (8, [.ref a19, .ref a20, .ref a21, .ref a22, .ref a23, .ref a24, .ref a25, .int v_Vw_7])), (a22, .inl (cI, 16, .inl g_Vw_trader)), (a3, .inr (8, [.ref a26, .ref a27, .ref a28, .ref a29, .ref a30, .ref a31, .ref a32, .int v_ot_7])), (a31, .inl (cI, 30, .inl g_ot_told)), (a32, .inl (cI, 30, .inl g_ot_untold)), (a29, .inl (cI, 30, .inl g_ot_trader))] H → va_D A [(a0, .inr (9, [.ref a1, .ref a2, .ref a3, .int v_x_3, .int v_x_4, .ref a4, .ref a5, .ref a6, .ref a7])), (a1, .inr (7, [.int v_V_0, .int v_V_1, .int v_V_2, .ref a8, .ref a9, .int v_V_5, .ref a10, .ref a11, .ref a12, .ref a13, .ref a14, .ref a15, .ref a16, .ref a17, .ref a18])), (a17, .inr (8, [.ref a19, .ref a20, .ref a21, .ref a22, .ref a23, .ref a24, .ref a25, .int v_Vw_7])), (a22, .inl (cI, 16, .inl g_Vw_trader)), (a3, .inr (8, [.ref a26, .ref a27, .ref a28, .ref a29, .ref a30, .ref a31, .ref a32, .int v_ot_7])), (a31, .inl (cI, 30, .inl g_ot_told)), (a32, .inl (cI, 30, .inl g_ot_untold)), (a29, .inl (cI, 30, .inl g_ot_trader))] → va_S A s.heap H locs → lv_has ls 6 [(0, .ref a0), (1, .int b1), (2, .long y5), (4, .ref a17), (5, .int x4)] → W p l e ({ frames := 1, cells := 0, slots := 0, locals := 22 } : Room) s m args below meth c H locs 0 0 Qm (F0 m 55 ls []) := by
          intro n
          induction n with
          | zero => intro x4 y5 H locs ls hv hm; omega
          | succ n ih_55 =>
            intro x4 y5 H locs ls hv hm hP hD hS hl
            refine lv_iload hx hb dX9_countingAt_55 (lv_at hl 4 rfl) ?_
            refine lv_aload_n hx hb dX9_countingAt_57 rfl (lv_at hl 0 rfl) ?_
            refine k_get hC hK hP iX9 0 2 wf_X9_28 rfl (by decide) rfl rfl dX9_countingAt_58 ?_
            refine k_getN hC hN hK hP iX8 4 7 wf_X9_85 rfl (by decide) rfl rfl dX9_countingAt_61 ?_
            refine lv_icmp_ge (tgt := 113) hx hb dX9_countingAt_64 (by decide) (fun c6 => ?_) (fun c6 => ?_)
            · have dc6 : v_ot_7.toInt ≤ x4.toInt := (fa_le _ _).mp c6
              refine lv_lload_n hx hb dX9_countingAt_113 rfl (lv_at hl 2 rfl) ?_
              rw [← hQm]
              exact k_lret hC hr hlk hK hP hD hS () [0, 1, 2, 3, 4, 5, 6, 7] rfl (by decide +kernel) trivial (Nat.le_of_ble_eq_true rfl) (Nat.le_of_ble_eq_true rfl) dX9_countingAt_114
            · have dc6 : x4.toInt < v_ot_7.toInt := fa_nle c6
              refine lv_aload_n hx hb dX9_countingAt_67 rfl (lv_at hl 0 rfl) ?_
              refine k_get hC hK hP iX9 0 2 wf_X9_28 rfl (by decide) rfl rfl dX9_countingAt_68 ?_
              refine lv_iload hx hb dX9_countingAt_71 (lv_at hl 4 rfl) ?_
              refine lv_iload_n hx hb dX9_countingAt_73 rfl (lv_at hl 1 rfl) ?_
              refine k_ci (wr := [(a0, .inr (9, [.ref a1, .ref a2, .ref a3, .int v_x_3, .int v_x_4, .ref a4, .ref a5, .ref a6, .ref a7])), (a1, .inr (7, [.int v_V_0, .int v_V_1, .int v_V_2, .ref a8, .ref a9, .int v_V_5, .ref a10, .ref a11, .ref a12, .ref a13, .ref a14, .ref a15, .ref a16, .ref a17, .ref a18])), (a17, .inr (8, [.ref a19, .ref a20, .ref a21, .ref a22, .ref a23, .ref a24, .ref a25, .int v_Vw_7])), (a22, .inl (cI, 16, .inl g_Vw_trader)), (a29, .inl (cI, 30, .inl g_ot_trader))]) (k_rV hC hN hZ hS hA hK hP hD (c11_X8_isKnown l G cI cJ cB cZ a3 a26 a27 a28 a29 a30 a31 a32 x4 b1 v_ot_7 g_ot_told g_ot_untold hv_8 hv_9) [4, 5, 6] rfl (by decide +kernel) mi_X8_isKnown in_X8_isKnown se_X8_isKnown wm_X9_306 8 4 rfl rfl rfl hl.1 rfl rfl (Nat.le_of_ble_eq_true rfl) ⟨(Nat.le_of_ble_eq_true rfl), (Nat.le_of_ble_eq_true rfl)⟩ dX9_countingAt_74 ⟨(Nat.le_of_ble_eq_true rfl), (Nat.le_of_ble_eq_true rfl)⟩) hP hD hS hA [4, 5, 6] [0, 1, 2, 3, 7] rfl rfl (by decide +kernel) (by decide +kernel) (fun r7 u7 H locs hp hP hD hS => ?_)
              have hp : (0 ≤ r7.toInt ∧ r7.toInt ≤ 1) := hp
              have hP : va_P G cl [(a0, .inr (9, [.ref a1, .ref a2, .ref a3, .int v_x_3, .int v_x_4, .ref a4, .ref a5, .ref a6, .ref a7])), (a1, .inr (7, [.int v_V_0, .int v_V_1, .int v_V_2, .ref a8, .ref a9, .int v_V_5, .ref a10, .ref a11, .ref a12, .ref a13, .ref a14, .ref a15, .ref a16, .ref a17, .ref a18])), (a17, .inr (8, [.ref a19, .ref a20, .ref a21, .ref a22, .ref a23, .ref a24, .ref a25, .int v_Vw_7])), (a22, .inl (cI, 16, .inl g_Vw_trader)), (a29, .inl (cI, 30, .inl g_ot_trader)), (a3, .inr (8, [.ref a26, .ref a27, .ref a28, .ref a29, .ref a30, .ref a31, .ref a32, .int v_ot_7])), (a31, .inl (cI, 30, .inl g_ot_told)), (a32, .inl (cI, 30, .inl g_ot_untold))] H := hP
              have hD : va_D A [(a0, .inr (9, [.ref a1, .ref a2, .ref a3, .int v_x_3, .int v_x_4, .ref a4, .ref a5, .ref a6, .ref a7])), (a1, .inr (7, [.int v_V_0, .int v_V_1, .int v_V_2, .ref a8, .ref a9, .int v_V_5, .ref a10, .ref a11, .ref a12, .ref a13, .ref a14, .ref a15, .ref a16, .ref a17, .ref a18])), (a17, .inr (8, [.ref a19, .ref a20, .ref a21, .ref a22, .ref a23, .ref a24, .ref a25, .int v_Vw_7])), (a22, .inl (cI, 16, .inl g_Vw_trader)), (a29, .inl (cI, 30, .inl g_ot_trader)), (a3, .inr (8, [.ref a26, .ref a27, .ref a28, .ref a29, .ref a30, .ref a31, .ref a32, .int v_ot_7])), (a31, .inl (cI, 30, .inl g_ot_told)), (a32, .inl (cI, 30, .inl g_ot_untold))] := hD
              have hq7 := hp
              refine lv_if_eq (tgt := 107) hx hb dX9_countingAt_77 (by decide) (fun c8 => ?_) (fun c8 => ?_)
              · have dc8 : r7.toInt = 0 := (fa_eq _ _).mp c8
                obtain ⟨z9, ez9⟩ : ∃ q : Int32, q = x4 + Int32.ofInt 1 := ⟨_, rfl⟩
                have tz9 : z9.toInt = x4.toInt + 1 := by rw [ez9]; exact add_i (y := 1) (by have p_ := i_lo x4; show _ ≤ _ + (1 : Int); omega) (by have q_ := i_hi x4; show _ + (1 : Int) ≤ _; omega)
                refine lv_iinc (v := z9) (lv' := [(5, .int z9), (0, .ref a0), (1, .int b1), (2, .long y5), (4, .ref a17)]) hx hb dX9_countingAt_107 hl (k := 4) rfl ez9.symm (by decide) rfl (fun ls hl => ?_)
                refine lv_goto (tgt := 55) hx hb dX9_countingAt_110 (by decide) ?_
                exact ih_55  z9 y5 H locs ls (by omega) (by omega) (hP.subm [0, 1, 2, 3, 5, 6, 7, 4] rfl) (hD.sub [0, 1, 2, 3, 5, 6, 7, 4] (by decide +kernel) rfl) hS (lv_sub hl [1, 2, 3, 4, 0] rfl)
              · have dc8 : r7.toInt ≠ 0 := fa_ne c8
                refine lv_aload_n hx hb dX9_countingAt_80 rfl (lv_at hl 0 rfl) ?_
                refine lv_aload_n hx hb dX9_countingAt_81 rfl (lv_at hl 0 rfl) ?_
                refine k_get hC hK hP iX9 0 2 wf_X9_28 rfl (by decide) rfl rfl dX9_countingAt_82 ?_
                refine k_getN hC hN hK hP iX8 5 3 wf_X9_302 rfl (by decide) rfl rfl dX9_countingAt_85 ?_
                refine lv_iload hx hb dX9_countingAt_88 (lv_at hl 4 rfl) ?_
                refine t_iald hC hK hP 4 rfl (by omega) (by omega) (TA.all _) dX9_countingAt_90 (fun z10 tz10 => ?_)
                refine k_ci (wr := [(a1, .inr (7, [.int v_V_0, .int v_V_1, .int v_V_2, .ref a8, .ref a9, .int v_V_5, .ref a10, .ref a11, .ref a12, .ref a13, .ref a14, .ref a15, .ref a16, .ref a17, .ref a18])), (a17, .inr (8, [.ref a19, .ref a20, .ref a21, .ref a22, .ref a23, .ref a24, .ref a25, .int v_Vw_7])), (a22, .inl (cI, 16, .inl g_Vw_trader)), (a29, .inl (cI, 30, .inl g_ot_trader)), (a3, .inr (8, [.ref a26, .ref a27, .ref a28, .ref a29, .ref a30, .ref a31, .ref a32, .int v_ot_7])), (a31, .inl (cI, 30, .inl g_ot_told)), (a32, .inl (cI, 30, .inl g_ot_untold))]) (k_rV hC hN hZ hS hA hK hP hD (c124_X9_isDoubted l G cI cJ cB cZ a0 a1 a2 a3 a4 a5 a6 a7 z10 v_x_3 v_x_4) [0] rfl (by decide +kernel) mi_X9_isDoubted in_X9_isDoubted se_X9_isDoubted wm_X9_122 9 0 rfl rfl rfl hl.1 rfl rfl (Nat.le_of_ble_eq_true rfl) ⟨(Nat.le_of_ble_eq_true rfl), (Nat.le_of_ble_eq_true rfl)⟩ dX9_countingAt_91 ⟨(Nat.le_of_ble_eq_true rfl), (Nat.le_of_ble_eq_true rfl)⟩) hP hD hS hA [0] [1, 2, 3, 4, 5, 6, 7] rfl rfl (by decide +kernel) (by decide +kernel) (fun r11 u11 H locs hp hP hD hS => ?_)
                have hp : (0 ≤ r11.toInt ∧ r11.toInt ≤ 1) := hp
                have hP : va_P G cl [(a1, .inr (7, [.int v_V_0, .int v_V_1, .int v_V_2, .ref a8, .ref a9, .int v_V_5, .ref a10, .ref a11, .ref a12, .ref a13, .ref a14, .ref a15, .ref a16, .ref a17, .ref a18])), (a17, .inr (8, [.ref a19, .ref a20, .ref a21, .ref a22, .ref a23, .ref a24, .ref a25, .int v_Vw_7])), (a22, .inl (cI, 16, .inl g_Vw_trader)), (a29, .inl (cI, 30, .inl g_ot_trader)), (a3, .inr (8, [.ref a26, .ref a27, .ref a28, .ref a29, .ref a30, .ref a31, .ref a32, .int v_ot_7])), (a31, .inl (cI, 30, .inl g_ot_told)), (a32, .inl (cI, 30, .inl g_ot_untold)), (a0, .inr (9, [.ref a1, .ref a2, .ref a3, .int v_x_3, .int v_x_4, .ref a4, .ref a5, .ref a6, .ref a7]))] H := hP
                have hD : va_D A [(a1, .inr (7, [.int v_V_0, .int v_V_1, .int v_V_2, .ref a8, .ref a9, .int v_V_5, .ref a10, .ref a11, .ref a12, .ref a13, .ref a14, .ref a15, .ref a16, .ref a17, .ref a18])), (a17, .inr (8, [.ref a19, .ref a20, .ref a21, .ref a22, .ref a23, .ref a24, .ref a25, .int v_Vw_7])), (a22, .inl (cI, 16, .inl g_Vw_trader)), (a29, .inl (cI, 30, .inl g_ot_trader)), (a3, .inr (8, [.ref a26, .ref a27, .ref a28, .ref a29, .ref a30, .ref a31, .ref a32, .int v_ot_7])), (a31, .inl (cI, 30, .inl g_ot_told)), (a32, .inl (cI, 30, .inl g_ot_untold)), (a0, .inr (9, [.ref a1, .ref a2, .ref a3, .int v_x_3, .int v_x_4, .ref a4, .ref a5, .ref a6, .ref a7]))] := hD
                have hq11 := hp
                refine lv_if_ne (tgt := 107) hx hb dX9_countingAt_94 (by decide) (fun c12 => ?_) (fun c12 => ?_)
                · have dc12 : r11.toInt ≠ 0 := fa_ne c12
                  obtain ⟨z13, ez13⟩ : ∃ q : Int32, q = x4 + Int32.ofInt 1 := ⟨_, rfl⟩
                  have tz13 : z13.toInt = x4.toInt + 1 := by rw [ez13]; exact add_i (y := 1) (by have p_ := i_lo x4; show _ ≤ _ + (1 : Int); omega) (by have q_ := i_hi x4; show _ + (1 : Int) ≤ _; omega)
                  refine lv_iinc (v := z13) (lv' := [(5, .int z13), (0, .ref a0), (1, .int b1), (2, .long y5), (4, .ref a17)]) hx hb dX9_countingAt_107 hl (k := 4) rfl ez13.symm (by decide) rfl (fun ls hl => ?_)
                  refine lv_goto (tgt := 55) hx hb dX9_countingAt_110 (by decide) ?_
                  exact ih_55  z13 y5 H locs ls (by omega) (by omega) (hP.subm [7, 0, 1, 2, 4, 5, 6, 3] rfl) (hD.sub [7, 0, 1, 2, 4, 5, 6, 3] (by decide +kernel) rfl) hS (lv_sub hl [1, 2, 3, 4, 0] rfl)
                · have dc12 : r11.toInt = 0 := (fa_eq _ _).mp c12
                  refine lv_lload_n hx hb dX9_countingAt_97 rfl (lv_at hl 2 rfl) ?_
                  refine lv_lconst (v := 1) hx hb dX9_countingAt_98 (by decide) ?_
                  refine lv_bipush (v := 16) hx hb dX9_countingAt_99 (by decide) ?_
                  refine lv_iload hx hb dX9_countingAt_101 (lv_at hl 4 rfl) ?_
                  refine lv_iadd hx hb dX9_countingAt_103 ?_
                  refine t_i (fun q => q.toInt = 16 + x4.toInt) (add_i (by show (-2147483648 : Int) ≤ 16 + x4.toInt; omega) (by show 16 + x4.toInt ≤ (2147483647 : Int); omega)) (fun z14 tz14 => ?_)
                  refine lv_lshl hx hb dX9_countingAt_104 rfl ?_
                  refine t_l (fun y15 => ?_)
                  refine lv_lor hx hb dX9_countingAt_105 ?_
                  refine t_l (fun y16 => ?_)
                  refine lv_lstore_n (lv' := [(2, .long y16), (0, .ref a0), (1, .int b1), (4, .ref a17), (5, .int x4)]) hx hb dX9_countingAt_106 rfl hl (by decide) rfl (fun ls hl => ?_)
                  obtain ⟨z17, ez17⟩ : ∃ q : Int32, q = x4 + Int32.ofInt 1 := ⟨_, rfl⟩
                  have tz17 : z17.toInt = x4.toInt + 1 := by rw [ez17]; exact add_i (y := 1) (by have p_ := i_lo x4; show _ ≤ _ + (1 : Int); omega) (by have q_ := i_hi x4; show _ + (1 : Int) ≤ _; omega)
                  refine lv_iinc (v := z17) (lv' := [(5, .int z17), (2, .long y16), (0, .ref a0), (1, .int b1), (4, .ref a17)]) hx hb dX9_countingAt_107 hl (k := 4) rfl ez17.symm (by decide) rfl (fun ls hl => ?_)
                  refine lv_goto (tgt := 55) hx hb dX9_countingAt_110 (by decide) ?_
                  exact ih_55  z17 y16 H locs ls (by omega) (by omega) (hP.subm [7, 0, 1, 2, 4, 5, 6, 3] rfl) (hD.sub [7, 0, 1, 2, 4, 5, 6, 3] (by decide +kernel) rfl) hS (lv_sub hl [2, 3, 1, 4, 0] rfl)
        have l_l18 : (0 : Int32).toInt = 0 := rfl
        exact L_55 31 0 y2 H locs ls (by omega) (by omega) (hP.subm [0, 1, 2, 3, 4, 5, 6, 7] rfl) (hD.sub [0, 1, 2, 3, 4, 5, 6, 7] (by decide +kernel) rfl) hS (lv_sub hl [1, 2, 3, 4, 0] rfl)
      · have dc3 : x1.toInt < v_Vw_7.toInt := fa_nle c3
        refine lv_aload_n hx hb dX9_countingAt_24 rfl (lv_at hl 0 rfl) ?_
        refine lv_aload hx hb dX9_countingAt_25 (lv_at hl 3 rfl) ?_
        refine k_getN hC hN hK hP iX8 2 3 wf_X9_302 rfl (by decide) rfl rfl dX9_countingAt_27 ?_
        refine lv_iload hx hb dX9_countingAt_30 (lv_at hl 4 rfl) ?_
        refine t_iald hC hK hP 3 rfl (by omega) (by omega) (TA.all _) dX9_countingAt_32 (fun z19 tz19 => ?_)
        refine k_ci (wr := [(a1, .inr (7, [.int v_V_0, .int v_V_1, .int v_V_2, .ref a8, .ref a9, .int v_V_5, .ref a10, .ref a11, .ref a12, .ref a13, .ref a14, .ref a15, .ref a16, .ref a17, .ref a18])), (a17, .inr (8, [.ref a19, .ref a20, .ref a21, .ref a22, .ref a23, .ref a24, .ref a25, .int v_Vw_7])), (a22, .inl (cI, 16, .inl g_Vw_trader)), (a3, .inr (8, [.ref a26, .ref a27, .ref a28, .ref a29, .ref a30, .ref a31, .ref a32, .int v_ot_7])), (a31, .inl (cI, 30, .inl g_ot_told)), (a32, .inl (cI, 30, .inl g_ot_untold)), (a29, .inl (cI, 30, .inl g_ot_trader))]) (k_rV hC hN hZ hS hA hK hP hD (c124_X9_isDoubted l G cI cJ cB cZ a0 a1 a2 a3 a4 a5 a6 a7 z19 v_x_3 v_x_4) [0] rfl (by decide +kernel) mi_X9_isDoubted in_X9_isDoubted se_X9_isDoubted wm_X9_122 9 0 rfl rfl rfl hl.1 rfl rfl (Nat.le_of_ble_eq_true rfl) ⟨(Nat.le_of_ble_eq_true rfl), (Nat.le_of_ble_eq_true rfl)⟩ dX9_countingAt_33 ⟨(Nat.le_of_ble_eq_true rfl), (Nat.le_of_ble_eq_true rfl)⟩) hP hD hS hA [0] [1, 2, 3, 4, 5, 6, 7] rfl rfl (by decide +kernel) (by decide +kernel) (fun r20 u20 H locs hp hP hD hS => ?_)
        have hp : (0 ≤ r20.toInt ∧ r20.toInt ≤ 1) := hp
        have hP : va_P G cl [(a1, .inr (7, [.int v_V_0, .int v_V_1, .int v_V_2, .ref a8, .ref a9, .int v_V_5, .ref a10, .ref a11, .ref a12, .ref a13, .ref a14, .ref a15, .ref a16, .ref a17, .ref a18])), (a17, .inr (8, [.ref a19, .ref a20, .ref a21, .ref a22, .ref a23, .ref a24, .ref a25, .int v_Vw_7])), (a22, .inl (cI, 16, .inl g_Vw_trader)), (a3, .inr (8, [.ref a26, .ref a27, .ref a28, .ref a29, .ref a30, .ref a31, .ref a32, .int v_ot_7])), (a31, .inl (cI, 30, .inl g_ot_told)), (a32, .inl (cI, 30, .inl g_ot_untold)), (a29, .inl (cI, 30, .inl g_ot_trader)), (a0, .inr (9, [.ref a1, .ref a2, .ref a3, .int v_x_3, .int v_x_4, .ref a4, .ref a5, .ref a6, .ref a7]))] H := hP
        have hD : va_D A [(a1, .inr (7, [.int v_V_0, .int v_V_1, .int v_V_2, .ref a8, .ref a9, .int v_V_5, .ref a10, .ref a11, .ref a12, .ref a13, .ref a14, .ref a15, .ref a16, .ref a17, .ref a18])), (a17, .inr (8, [.ref a19, .ref a20, .ref a21, .ref a22, .ref a23, .ref a24, .ref a25, .int v_Vw_7])), (a22, .inl (cI, 16, .inl g_Vw_trader)), (a3, .inr (8, [.ref a26, .ref a27, .ref a28, .ref a29, .ref a30, .ref a31, .ref a32, .int v_ot_7])), (a31, .inl (cI, 30, .inl g_ot_told)), (a32, .inl (cI, 30, .inl g_ot_untold)), (a29, .inl (cI, 30, .inl g_ot_trader)), (a0, .inr (9, [.ref a1, .ref a2, .ref a3, .int v_x_3, .int v_x_4, .ref a4, .ref a5, .ref a6, .ref a7]))] := hD
        have hq20 := hp
        refine lv_if_ne (tgt := 46) hx hb dX9_countingAt_36 (by decide) (fun c21 => ?_) (fun c21 => ?_)
        · have dc21 : r20.toInt ≠ 0 := fa_ne c21
          obtain ⟨z22, ez22⟩ : ∃ q : Int32, q = x1 + Int32.ofInt 1 := ⟨_, rfl⟩
          have tz22 : z22.toInt = x1.toInt + 1 := by rw [ez22]; exact add_i (y := 1) (by have p_ := i_lo x1; show _ ≤ _ + (1 : Int); omega) (by have q_ := i_hi x1; show _ + (1 : Int) ≤ _; omega)
          refine lv_iinc (v := z22) (lv' := [(5, .int z22), (0, .ref a0), (1, .int b1), (2, .long y2), (4, .ref a17)]) hx hb dX9_countingAt_46 hl (k := 4) rfl ez22.symm (by decide) rfl (fun ls hl => ?_)
          refine lv_goto (tgt := 14) hx hb dX9_countingAt_49 (by decide) ?_
          exact ih  z22 y2 H locs ls (by omega) (by omega) (hP.subm [7, 0, 1, 2, 3, 4, 5, 6] rfl) (hD.sub [7, 0, 1, 2, 3, 4, 5, 6] (by decide +kernel) rfl) hS (lv_sub hl [1, 2, 3, 4, 0] rfl)
        · have dc21 : r20.toInt = 0 := (fa_eq _ _).mp c21
          refine lv_lload_n hx hb dX9_countingAt_39 rfl (lv_at hl 2 rfl) ?_
          refine lv_lconst (v := 1) hx hb dX9_countingAt_40 (by decide) ?_
          refine lv_iload hx hb dX9_countingAt_41 (lv_at hl 4 rfl) ?_
          refine lv_lshl hx hb dX9_countingAt_43 rfl ?_
          refine t_l (fun y23 => ?_)
          refine lv_lor hx hb dX9_countingAt_44 ?_
          refine t_l (fun y24 => ?_)
          refine lv_lstore_n (lv' := [(2, .long y24), (0, .ref a0), (1, .int b1), (4, .ref a17), (5, .int x1)]) hx hb dX9_countingAt_45 rfl hl (by decide) rfl (fun ls hl => ?_)
          obtain ⟨z25, ez25⟩ : ∃ q : Int32, q = x1 + Int32.ofInt 1 := ⟨_, rfl⟩
          have tz25 : z25.toInt = x1.toInt + 1 := by rw [ez25]; exact add_i (y := 1) (by have p_ := i_lo x1; show _ ≤ _ + (1 : Int); omega) (by have q_ := i_hi x1; show _ + (1 : Int) ≤ _; omega)
          refine lv_iinc (v := z25) (lv' := [(5, .int z25), (2, .long y24), (0, .ref a0), (1, .int b1), (4, .ref a17)]) hx hb dX9_countingAt_46 hl (k := 4) rfl ez25.symm (by decide) rfl (fun ls hl => ?_)
          refine lv_goto (tgt := 14) hx hb dX9_countingAt_49 (by decide) ?_
          exact ih  z25 y24 H locs ls (by omega) (by omega) (hP.subm [7, 0, 1, 2, 3, 4, 5, 6] rfl) (hD.sub [7, 0, 1, 2, 3, 4, 5, 6] (by decide +kernel) rfl) hS (lv_sub hl [2, 3, 1, 4, 0] rfl)
  have l_l26 : (0 : Int32).toInt = 0 := rfl
  exact L_14 17 0 0 H locs ls (by omega) (by omega) (hP.subm [0, 1, 2, 3, 4, 5, 6, 7] rfl) (hD.sub [0, 1, 2, 3, 4, 5, 6, 7] (by decide +kernel) rfl) hS (lv_sub hl [3, 4, 2, 1, 0] rfl)
theorem dX9_about_0 : decode cX9_about 0 = .ok (.iload_n 1, 1) := by decide +kernel
theorem dX9_about_1 : decode cX9_about 1 = .ok (.tableswitch 102 0 6 #[43, 51, 62, 70, 81, 86, 97], 43) := by decide +kernel
theorem dX9_about_103 : decode cX9_about 103 = .ok (.iconst (-1), 1) := by decide +kernel
theorem dX9_about_104 : decode cX9_about 104 = .ok (.ireturn, 1) := by decide +kernel
theorem dX9_about_44 : decode cX9_about 44 = .ok (.aload_n 0, 1) := by decide +kernel
theorem dX9_about_45 : decode cX9_about 45 = .ok (.getfield 10, 3) := by decide +kernel
theorem dX9_about_48 : decode cX9_about 48 = .ok (.getfield 171, 3) := by decide +kernel
theorem dX9_about_51 : decode cX9_about 51 = .ok (.ireturn, 1) := by decide +kernel
theorem dX9_about_52 : decode cX9_about 52 = .ok (.aload_n 0, 1) := by decide +kernel
theorem dX9_about_53 : decode cX9_about 53 = .ok (.getfield 10, 3) := by decide +kernel
theorem dX9_about_56 : decode cX9_about 56 = .ok (.getfield 289, 3) := by decide +kernel
theorem dX9_about_59 : decode cX9_about 59 = .ok (.getfield 85, 3) := by decide +kernel
theorem dX9_about_62 : decode cX9_about 62 = .ok (.ireturn, 1) := by decide +kernel
theorem dX9_about_63 : decode cX9_about 63 = .ok (.aload_n 0, 1) := by decide +kernel
theorem dX9_about_64 : decode cX9_about 64 = .ok (.getfield 28, 3) := by decide +kernel
theorem dX9_about_67 : decode cX9_about 67 = .ok (.getfield 85, 3) := by decide +kernel
theorem dX9_about_70 : decode cX9_about 70 = .ok (.ireturn, 1) := by decide +kernel
theorem dX9_about_71 : decode cX9_about 71 = .ok (.aload_n 0, 1) := by decide +kernel
theorem dX9_about_72 : decode cX9_about 72 = .ok (.getfield 10, 3) := by decide +kernel
theorem dX9_about_75 : decode cX9_about 75 = .ok (.getfield 211, 3) := by decide +kernel
set_option maxRecDepth 100000 in
theorem wf_X9_211 : Cond.fieldLinkNest RX9 211 "StoneTrust$Village" "sales" "LStoneTrust$Sales;" "StoneTrust" ∈ nests := nm_ (List.mem_of_getElem? (i := 265) (by decide +kernel)) rfl
theorem dX9_about_78 : decode cX9_about 78 = .ok (.getfield 215, 3) := by decide +kernel
set_option maxRecDepth 100000 in
theorem wf_X9_215 : Cond.fieldLinkNest RX9 215 "StoneTrust$Sales" "size" "I" "StoneTrust" ∈ nests := nm_ (List.mem_of_getElem? (i := 204) (by decide +kernel)) rfl
theorem dX9_about_81 : decode cX9_about 81 = .ok (.ireturn, 1) := by decide +kernel
theorem dX9_about_82 : decode cX9_about 82 = .ok (.aload_n 0, 1) := by decide +kernel
theorem dX9_about_83 : decode cX9_about 83 = .ok (.getfield 32, 3) := by decide +kernel
theorem dX9_about_86 : decode cX9_about 86 = .ok (.ireturn, 1) := by decide +kernel
theorem dX9_about_87 : decode cX9_about 87 = .ok (.aload_n 0, 1) := by decide +kernel
theorem dX9_about_88 : decode cX9_about 88 = .ok (.getfield 19, 3) := by decide +kernel
theorem dX9_about_91 : decode cX9_about 91 = .ok (.getfield 65, 3) := by decide +kernel
theorem dX9_about_94 : decode cX9_about 94 = .ok (.getfield 69, 3) := by decide +kernel
theorem dX9_about_97 : decode cX9_about 97 = .ok (.ireturn, 1) := by decide +kernel
theorem dX9_about_98 : decode cX9_about 98 = .ok (.aload_n 0, 1) := by decide +kernel
theorem dX9_about_99 : decode cX9_about 99 = .ok (.getfield 36, 3) := by decide +kernel
theorem dX9_about_102 : decode cX9_about 102 = .ok (.ireturn, 1) := by decide +kernel
set_option maxHeartbeats 4000000 in
set_option maxRecDepth 100000 in
theorem c127_X9_about (l : Launch) (G : va_G) (cI cJ cB cZ : ClassId) (a0 a1 a2 a3 a4 a5 a6 a7 a8 a9 a10 a11 a12 a13 a14 a15 a16 a17 a18 a19 a20 a21 a22 a23 a24 a25 a26 a27 a28 a29 a30 a31 a32 a33 a34 a35 a36 a37 a38 a39 : Nat) (b1 : Int32) (v_x_3 : Int32) (v_x_4 : Int32) (v_V_0 : Int32) (v_V_1 : Int32) (v_V_2 : Int32) (v_V_5 : Int32) (v_Vw_7 : Int32) (v_ot_7 : Int32) (v_Vs_4 : Int32) (v_rd_2 : Int32) (v_rd_3 : Int32) (v_rd_4 : Int32) (v_rd_5 : Int32) (v_rd_6 : Int32) (v_rd_7 : Int32) (v_tp_1 : Int32) (v_tp_2 : Int32) (v_tp_3 : Int32) (v_tp_4 : Int32) (w_tp_5 : Int64) (v_tp_6 : Int32) (hv_0 : 0 ≤ v_V_0.toInt) (hv_1 : v_V_0.toInt ≤ 110) (hv_2 : 0 ≤ v_V_1.toInt) (hv_3 : v_V_1.toInt ≤ 110) (hv_4 : 0 ≤ v_V_5.toInt) (hv_5 : v_V_5.toInt ≤ 6) (hv_6 : 0 ≤ v_Vw_7.toInt) (hv_7 : v_Vw_7.toInt ≤ 16) (hv_8 : 0 ≤ v_ot_7.toInt) (hv_9 : v_ot_7.toInt ≤ 30) (hv_10 : 0 ≤ v_Vs_4.toInt) (hv_11 : v_Vs_4.toInt ≤ 10) (hv_12 : 0 ≤ v_rd_3.toInt) (hv_13 : v_rd_3.toInt ≤ 1) (hv_14 : 0 ≤ v_rd_4.toInt) (hv_15 : v_rd_4.toInt ≤ 1) (hv_16 : 0 ≤ v_tp_1.toInt) (hv_17 : v_tp_1.toInt ≤ 1300) (hv_18 : 0 ≤ v_tp_2.toInt) (hv_19 : v_tp_2.toInt ≤ 1300) : Con l G (TY cI cJ cB cZ) yX9_about cX9_about 2 (some .int) ({ frames := 0, cells := 0, slots := 0, locals := 0 } : Room) [.ref a0, .int b1] [(a0, .inr (9, [.ref a1, .ref a2, .ref a3, .int v_x_3, .int v_x_4, .ref a4, .ref a5, .ref a6, .ref a7])), (a1, .inr (7, [.int v_V_0, .int v_V_1, .int v_V_2, .ref a8, .ref a9, .int v_V_5, .ref a10, .ref a11, .ref a12, .ref a13, .ref a14, .ref a15, .ref a16, .ref a17, .ref a18])), (a17, .inr (8, [.ref a19, .ref a20, .ref a21, .ref a22, .ref a23, .ref a24, .ref a25, .int v_Vw_7])), (a3, .inr (8, [.ref a26, .ref a27, .ref a28, .ref a29, .ref a30, .ref a31, .ref a32, .int v_ot_7])), (a18, .inr (3, [.ref a33, .ref a34, .ref a35, .ref a36, .int v_Vs_4])), (a2, .inr (2, [.ref a37, .ref a38, .int v_rd_2, .int v_rd_3, .int v_rd_4, .int v_rd_5, .int v_rd_6, .int v_rd_7])), (a37, .inr (5, [.ref a39, .int v_tp_1, .int v_tp_2, .int v_tp_3, .int v_tp_4, .long w_tp_5, .int v_tp_6]))] (QI G (TY cI cJ cB cZ) (fun (r : Int32) (u : Unit) => (True)) (fun u : Unit => [(a0, .inr (9, [.ref a1, .ref a2, .ref a3, .int v_x_3, .int v_x_4, .ref a4, .ref a5, .ref a6, .ref a7])), (a1, .inr (7, [.int v_V_0, .int v_V_1, .int v_V_2, .ref a8, .ref a9, .int v_V_5, .ref a10, .ref a11, .ref a12, .ref a13, .ref a14, .ref a15, .ref a16, .ref a17, .ref a18])), (a17, .inr (8, [.ref a19, .ref a20, .ref a21, .ref a22, .ref a23, .ref a24, .ref a25, .int v_Vw_7])), (a3, .inr (8, [.ref a26, .ref a27, .ref a28, .ref a29, .ref a30, .ref a31, .ref a32, .int v_ot_7])), (a18, .inr (3, [.ref a33, .ref a34, .ref a35, .ref a36, .int v_Vs_4])), (a2, .inr (2, [.ref a37, .ref a38, .int v_rd_2, .int v_rd_3, .int v_rd_4, .int v_rd_5, .int v_rd_6, .int v_rd_7])), (a37, .inr (5, [.ref a39, .int v_tp_1, .int v_tp_2, .int v_tp_3, .int v_tp_4, .long w_tp_5, .int v_tp_6]))])) := by
  refine k_met (by decide) (Nat.le_of_ble_eq_true rfl) ?_
  intro p e s m below meth c A ls hC hr hlk hnm hN hZ hK hA hP hD hS hl
  have hl : lv_has ls 2 [(0, .ref a0), (1, .int b1)] := hl
  generalize hQm : MQ below _ _ s _ _ A = Qm
  generalize (List.toArray _ : Array Value) = args at hC hQm ⊢
  obtain ⟨hx, hb, hml, hown, hts⟩ := id hC
  obtain ⟨H, hH⟩ : ∃ q, q = s.heap := ⟨_, rfl⟩
  obtain ⟨locs, hlo⟩ : ∃ q : List Loc, q = [] := ⟨_, rfl⟩
  have hP : va_P G cl [(a0, .inr (9, [.ref a1, .ref a2, .ref a3, .int v_x_3, .int v_x_4, .ref a4, .ref a5, .ref a6, .ref a7])), (a1, .inr (7, [.int v_V_0, .int v_V_1, .int v_V_2, .ref a8, .ref a9, .int v_V_5, .ref a10, .ref a11, .ref a12, .ref a13, .ref a14, .ref a15, .ref a16, .ref a17, .ref a18])), (a17, .inr (8, [.ref a19, .ref a20, .ref a21, .ref a22, .ref a23, .ref a24, .ref a25, .int v_Vw_7])), (a3, .inr (8, [.ref a26, .ref a27, .ref a28, .ref a29, .ref a30, .ref a31, .ref a32, .int v_ot_7])), (a18, .inr (3, [.ref a33, .ref a34, .ref a35, .ref a36, .int v_Vs_4])), (a2, .inr (2, [.ref a37, .ref a38, .int v_rd_2, .int v_rd_3, .int v_rd_4, .int v_rd_5, .int v_rd_6, .int v_rd_7])), (a37, .inr (5, [.ref a39, .int v_tp_1, .int v_tp_2, .int v_tp_3, .int v_tp_4, .long w_tp_5, .int v_tp_6]))] H := by rw [hH]; exact hP
  have hS : va_S A s.heap H locs := by rw [hH, hlo]; exact hS
  rw [← hlo]
  rw [← hH]
  refine lv_iload_n hx hb dX9_about_0 rfl (lv_at hl 1 rfl) ?_
  by_cases q1 : b1.toInt < 0 ∨ 6 < b1.toInt
  · refine lv_tableOut (tgt := 103) hx hb dX9_about_1 q1 (by decide) ?_
    refine lv_iconst (v := (-1)) hx hb dX9_about_103 (by decide) ?_
    have l_l2 : ((-1) : Int32).toInt = (-1) := rfl
    rw [← hQm]
    exact k_iret hC hr hlk hK hP hD hS () [0, 1, 2, 3, 4, 5, 6] rfl (by decide +kernel) trivial (Nat.le_of_ble_eq_true rfl) (Nat.le_of_ble_eq_true rfl) dX9_about_104
  have e3 : b1.toInt = 0 ∨ b1.toInt = 1 ∨ b1.toInt = 2 ∨ b1.toInt = 3 ∨ b1.toInt = 4 ∨ b1.toInt = 5 ∨ b1.toInt = 6 := by omega
  rcases e3 with e3 | e3 | e3 | e3 | e3 | e3 | e3
  · refine lv_tableIn (tgt := 44) hx hb dX9_about_1 (by omega) (by omega) (by rw [e3]; rfl) (by decide) ?_
    refine lv_aload_n hx hb dX9_about_44 rfl (lv_at hl 0 rfl) ?_
    refine k_get hC hK hP iX9 0 0 wf_X9_10 rfl (by decide) rfl rfl dX9_about_45 ?_
    refine k_getN hC hN hK hP iX7 1 5 wf_X9_171 rfl (by decide) rfl rfl dX9_about_48 ?_
    rw [← hQm]
    exact k_iret hC hr hlk hK hP hD hS () [0, 1, 2, 3, 4, 5, 6] rfl (by decide +kernel) trivial (Nat.le_of_ble_eq_true rfl) (Nat.le_of_ble_eq_true rfl) dX9_about_51
  · refine lv_tableIn (tgt := 52) hx hb dX9_about_1 (by omega) (by omega) (by rw [e3]; rfl) (by decide) ?_
    refine lv_aload_n hx hb dX9_about_52 rfl (lv_at hl 0 rfl) ?_
    refine k_get hC hK hP iX9 0 0 wf_X9_10 rfl (by decide) rfl rfl dX9_about_53 ?_
    refine k_getN hC hN hK hP iX7 1 13 wf_X9_289 rfl (by decide) rfl rfl dX9_about_56 ?_
    refine k_getN hC hN hK hP iX8 2 7 wf_X9_85 rfl (by decide) rfl rfl dX9_about_59 ?_
    rw [← hQm]
    exact k_iret hC hr hlk hK hP hD hS () [0, 1, 2, 3, 4, 5, 6] rfl (by decide +kernel) trivial (Nat.le_of_ble_eq_true rfl) (Nat.le_of_ble_eq_true rfl) dX9_about_62
  · refine lv_tableIn (tgt := 63) hx hb dX9_about_1 (by omega) (by omega) (by rw [e3]; rfl) (by decide) ?_
    refine lv_aload_n hx hb dX9_about_63 rfl (lv_at hl 0 rfl) ?_
    refine k_get hC hK hP iX9 0 2 wf_X9_28 rfl (by decide) rfl rfl dX9_about_64 ?_
    refine k_getN hC hN hK hP iX8 3 7 wf_X9_85 rfl (by decide) rfl rfl dX9_about_67 ?_
    rw [← hQm]
    exact k_iret hC hr hlk hK hP hD hS () [0, 1, 2, 3, 4, 5, 6] rfl (by decide +kernel) trivial (Nat.le_of_ble_eq_true rfl) (Nat.le_of_ble_eq_true rfl) dX9_about_70
  · refine lv_tableIn (tgt := 71) hx hb dX9_about_1 (by omega) (by omega) (by rw [e3]; rfl) (by decide) ?_
    refine lv_aload_n hx hb dX9_about_71 rfl (lv_at hl 0 rfl) ?_
    refine k_get hC hK hP iX9 0 0 wf_X9_10 rfl (by decide) rfl rfl dX9_about_72 ?_
    refine k_getN hC hN hK hP iX7 1 14 wf_X9_211 rfl (by decide) rfl rfl dX9_about_75 ?_
    refine k_getN hC hN hK hP iX3 4 4 wf_X9_215 rfl (by decide) rfl rfl dX9_about_78 ?_
    rw [← hQm]
    exact k_iret hC hr hlk hK hP hD hS () [0, 1, 2, 3, 4, 5, 6] rfl (by decide +kernel) trivial (Nat.le_of_ble_eq_true rfl) (Nat.le_of_ble_eq_true rfl) dX9_about_81
  · refine lv_tableIn (tgt := 82) hx hb dX9_about_1 (by omega) (by omega) (by rw [e3]; rfl) (by decide) ?_
    refine lv_aload_n hx hb dX9_about_82 rfl (lv_at hl 0 rfl) ?_
    refine k_get hC hK hP iX9 0 3 wf_X9_32 rfl (by decide) rfl rfl dX9_about_83 ?_
    rw [← hQm]
    exact k_iret hC hr hlk hK hP hD hS () [0, 1, 2, 3, 4, 5, 6] rfl (by decide +kernel) trivial (Nat.le_of_ble_eq_true rfl) (Nat.le_of_ble_eq_true rfl) dX9_about_86
  · refine lv_tableIn (tgt := 87) hx hb dX9_about_1 (by omega) (by omega) (by rw [e3]; rfl) (by decide) ?_
    refine lv_aload_n hx hb dX9_about_87 rfl (lv_at hl 0 rfl) ?_
    refine k_get hC hK hP iX9 0 1 wf_X9_19 rfl (by decide) rfl rfl dX9_about_88 ?_
    refine k_getN hC hN hK hP iX2 5 0 wf_X9_65 rfl (by decide) rfl rfl dX9_about_91 ?_
    refine k_getN hC hN hK hP iX5 6 1 wf_X9_69 rfl (by decide) rfl rfl dX9_about_94 ?_
    rw [← hQm]
    exact k_iret hC hr hlk hK hP hD hS () [0, 1, 2, 3, 4, 5, 6] rfl (by decide +kernel) trivial (Nat.le_of_ble_eq_true rfl) (Nat.le_of_ble_eq_true rfl) dX9_about_97
  · refine lv_tableIn (tgt := 98) hx hb dX9_about_1 (by omega) (by omega) (by rw [e3]; rfl) (by decide) ?_
    refine lv_aload_n hx hb dX9_about_98 rfl (lv_at hl 0 rfl) ?_
    refine k_get hC hK hP iX9 0 4 wf_X9_36 rfl (by decide) rfl rfl dX9_about_99 ?_
    rw [← hQm]
    exact k_iret hC hr hlk hK hP hD hS () [0, 1, 2, 3, 4, 5, 6] rfl (by decide +kernel) trivial (Nat.le_of_ble_eq_true rfl) (Nat.le_of_ble_eq_true rfl) dX9_about_102
